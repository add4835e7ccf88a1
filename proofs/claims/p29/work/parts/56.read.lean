-- the class reads it
theorem uI_id {S : mT} {o k : Nat} {x : Int32} (h : S.1 o k = x) : uI S o k x = S := by
  refine mT_ext (funext fun o' => funext fun k' => ?_) (fun _ => rfl) rfl
  show (if o' = o ∧ k' = k then x else S.1 o' k') = S.1 o' k'
  by_cases z : o' = o ∧ k' = k
  · rw [if_pos z, z.1, z.2, h]
  · rw [if_neg z]
def spl (P : mT) (k : Nat) : mT := uI (uA P 2 (cpy k (P.2.1 39) (P.2.1 2))) 1 1 (nI k)
theorem op_spell {P : mT} {h : Nat → Nat} {L : Nat} (hL : L ≤ 36) (h0 : P.1 1 1 = 0) (hh : ∀ i, i < L → P.2.1 39 i = nI (h i) ∧ 1 ≤ h i ∧ h i < 127) : f_L_spell (some 0) (some 40) (nI L) (mk P) = some (1, mk (spl P L)) := by
  have hl := loopK (fun m k => f_L_spell_L2 (some 0) (some 40) (nI L) m (nI k) (mk (spl P k))) L (.inr (mk (spl P L))) ?_ (fun m => ?he) mFuel (by unfold mFuel; omega)
  case he =>
    simp only [f_L_spell_L2]
    rw [if_pos (show nI L ≤ nI L by rw [n_le (by omega) (by omega)]; omega)]
  · have e0 : spl P 0 = P := by
      unfold spl
      rw [cpy_0, uA_id]
      exact uI_id h0
    rw [e0] at hl
    unfold f_L_spell
    refine bnd hl ?_
    rfl
  · intro m k hk
    obtain ⟨w1, w2, w3⟩ := hh k hk
    have hv : (nI (h k)).toInt = h k := nT (by omega)
    simp only [f_L_spell_L2]
    rw [if_neg (show ¬ nI L ≤ nI k by rw [n_le (by omega) (by omega)]; omega)]
    refine bnd (aL_40 _ (show k < 36 by omega)) ?_
    rw [show (spl P k).2.1 39 k = nI (h k) from w1]
    refine bnd (kk_0 _) ?_
    have hc := c_letter (S := spl P k) (L := k) (by omega) uI_s (nI (h k))
    rw [if_neg (show ¬ ((nI (h k)).toInt < 1 ∨ 126 < (nI (h k)).toInt) by omega), if_neg (show ¬ k = 36 by omega)] at hc
    refine bnd hc ?_
    rw [if_pos (show (nI (k + 1) : Int32) = nI k + (1 : Int32) from (nI_1 k).symm), nI_1]
    have e1 : uI (uA (spl P k) 2 (upd ((spl P k).2.1 2) k (nI (h k)))) 1 1 (nI (k + 1)) = spl P (k + 1) := by
      unfold spl
      show uI (uI (uA (uA P 2 (cpy k (P.2.1 39) (P.2.1 2))) 2 (upd (cpy k (P.2.1 39) (P.2.1 2)) k (nI (h k)))) 1 1 (nI k)) 1 1 (nI (k + 1)) = _
      rw [uI_u, uA_u, ← w1, cpy_s]
    rw [e1]
theorem c_fault {S : mT} {h : Nat → Nat} {L e : Nat} (hc : ∀ i, i < L → S.2.1 2 i = nI (h i) ∧ h i < 127) (hL : L ≤ 36) (eL : S.1 1 1 = nI L) (hr : rd h L 0 0 = (L, e)) : ∃ T : mT, f_X10_fault 0 (mk S) = some (nI L, mk T) ∧ ob T = ob S := by
  obtain ⟨T, t1, t2, t3⟩ := c_readAll hc hL eL
  rw [hr] at t1
  refine ⟨T, ?_, t2⟩
  unfold f_X10_fault
  refine bnd (rR_0_1 _) ?_
  refine bnd (rR_0_0 _) ?_
  refine bnd (kk_3 _) ?_
  refine bnd t1 ?_
  rfl
theorem c_port {S : mT} {h : Nat → Nat} {L e p : Nat} (hc : ∀ i, i < L → S.2.1 2 i = nI (h i) ∧ h i < 127) (hL : L ≤ 36) (eL : S.1 1 1 = nI L) (ep : S.1 0 9 = nI p) (hr : rd h L 0 0 = (L, e)) (h0 : ¬ e = 0) (h4 : (L - e) % 4 = 0) : ∃ T : mT, ob T = ob S ∧ CB S T h e L ∧ f_X10_port 0 (mk S) = some (nI ((e + 1) / 3), mk (poC T ((e + 1) / 3) ((L - e) / 4) p (fun k => (kn (h (e + 1 + 4 * k))).toInt.toNat))) := by
  obtain ⟨T, t1, t2, t3⟩ := c_readAll hc hL eL
  rw [hr] at t1 t3
  have hs := t3 rfl
  unfold CS at hs
  rw [if_neg h0] at hs
  refine ⟨T, t2, hs, ?_⟩
  have q1 : T.1 1 1 = nI L := by rw [ob_i t2 rfl]; exact eL
  obtain ⟨o1, ⟨e1, e2, e3, e4⟩, p1, p2, p3, p4, p5, p6, p7⟩ := hs
  have hkd : ∀ k, k < (L - e) / 4 → (kn (h (e + 1 + 4 * k))).toInt.toNat ≤ 4 ∧ T.2.1 5 k = nI (kn (h (e + 1 + 4 * k))).toInt.toNat := by
    intro k hk
    obtain ⟨r1, r2⟩ := p5 k (by omega)
    rcases kn_ok (hc (e + 1 + 4 * k) (by omega)).2 with hm | ⟨kd, hm1, hm2⟩
    · exact absurd hm r2
    · rw [r1, hm2, nT (by omega)]
      exact ⟨hm1, rfl⟩
  unfold f_X10_port f_X10_port_J31 f_X5_isWhole f_X5_isWhole_J14
  refine bnd (rR_0_1 _) ?_
  refine bnd (rR_0_0 _) ?_
  refine bnd (kk_3 _) ?_
  refine bnd (t1) ?_
  refine bnd (rR_0_0 _) ?_
  refine bnd (rI_1_1 _) ?_
  rw [q1, if_neg (show ¬ nI L < nI L by rw [n_lt (by omega) (by omega)]; omega)]
  refine bnd (rR_0_1 _) ?_
  refine bnd (kk_3 _) ?_
  rw [rI_3_7, bS, p1, show (L - e - 1) % 4 = 3 by omega, if_pos (show nI (3 + 3) = (6 : Int32) from rfl), if_pos (Or.inr rfl), bS, if_neg (show ¬ (1 : Int32) = 0 by decide)]
  refine bnd (kk_0 _) ?_
  refine bnd (c_settle (n := (e + 1) / 3) (t := (L - e) / 4) (p := p) (by omega) p2 p3 hkd) ?_
  refine bnd (rR_0_0 _) ?_
  refine bnd (wI_1_1 _ _) ?_
  refine bnd (rI_0_9 _) ?_
  refine bnd (wI_0_9 _ _) ?_
  refine bnd (rI_0_7 _) ?_
  have e9 : (uI (stl (bgn (uI (uI (uI T 0 7 (nI ((e + 1) / 3))) 0 8 (nI ((L - e) / 4))) 0 10 0)) (fun k => (kn (h (e + 1 + 4 * k))).toInt.toNat) ((L - e) / 4)) 1 1 0).1 0 9 = nI p := by
    show (stl _ _ _).1 0 9 = _
    rw [stl_1]
    show T.1 0 9 = _
    rw [ob_i t2 rfl]
    exact ep
  rw [e9, nI_1]
  refine congrArg some (Prod.ext ?_ rfl)
  show (stl _ _ _).1 0 7 = _
  rw [stl_1]
  rfl
theorem sm_0 : ∀ n, sm (fun _ => (0 : Int32)) n = 0
  | 0 => rfl
  | n + 1 => by
    show sm (fun _ => (0 : Int32)) n + 0 = 0
    rw [sm_0 n]
    rfl
theorem Inv_port {X : mXs} {n t : Nat} {c : Nat → Nat} {P S T : mT} (h : PT X n t c P) (hS : S = spl P (3 * n - 1 + 4 * t)) {S1 : mT} (hS1 : ob S1 = ob S) (hT : ob T = ob S1) (hB : CB S1 T (chr P) (3 * n - 1) (3 * n - 1 + 4 * t)) : Inv n t 0 0 (poC T n t 0 (fun k => (kn (chr P (3 * n - 1 + 1 + 4 * k))).toInt.toNat)) := by
  obtain ⟨⟨w1, w2, w3⟩, _⟩ := PT_PL h
  obtain ⟨⟨⟨n1, n2⟩, t1, t2⟩, ⟨i3, i4, i5, i6, i7⟩, iz, rz, ex, ⟨u1, u2, u3, u4⟩, uu⟩ := id h
  have hTS : ob T = ob S := hT.trans hS1
  have hi : ∀ o k, okI o k = true → T.1 o k = S.1 o k := fun o k hk => ob_i hTS hk
  have ha : ∀ r, okA r = true → T.2.1 r = S.2.1 r := fun r hk => ob_a hTS hk
  have hx : T.2.2.2.2 = [] := ((congrArg (fun Z : mT => Z.2.2.2.2) hTS : (ob T).2.2.2.2 = (ob S).2.2.2.2)).trans (by rw [hS]; exact ex)
  obtain ⟨o1, ⟨e1, e2, e3, e4⟩, p1, p2, p3, p4, p5, p6, p7⟩ := hB
  have hkd : ∀ j, j < t → (kn (chr P (3 * n - 1 + 1 + 4 * j))).toInt.toNat = KX X j := by
    intro j hj
    rw [show 3 * n - 1 + 1 + 4 * j = 3 * n - 1 + 4 * j + 1 by omega, (w3 j hj).2.1, (ltr_ok (KX_le X j)).2.2, nT (by have := KX_le X j; omega)]
    rfl
  have s48 : ∀ a : Nat, nI (48 + a) - 48 = nI a := fun a => by
    rw [show (48 : Int32) = nI 48 from rfl, n_sub (by omega)]
    exact congrArg nI (by omega)
  refine ⟨⟨⟨n1, n2⟩, ⟨t1, t2⟩, by omega, ?_, ?_⟩, ⟨?_, ?_, ?_, ?_⟩, fun j hj => ?_, fun i hi' => ?_, fun i hi' => ⟨fun _ => ⟨?_, ?_⟩, fun _ => ⟨?_, ?_⟩⟩, ⟨fun i hi' => Or.inl ?_, ?_⟩, fun j hj => ⟨?_, ?_, AX X j, BX X j, AX_le X j, BX_le X j, ?_, ?_⟩, ⟨fun j hj => ?_, ?_⟩, ⟨?_, Or.inr (Or.inl ?_)⟩, ?_, ⟨?_, 0, by omega, ?_⟩, 0, by omega, ?_⟩
  · show (stl _ _ _).2.2.2.2.length ≤ _
    rw [stl_len]
    show T.2.2.2.2.length + _ ≤ _
    rw [hx]
    show 0 + t ≤ 4 + 0
    omega
  · show mSz (stl _ _ _).2.2.2.2 ≤ _
    rw [stl_sz]
    show mSz T.2.2.2.2 ≤ _
    rw [hx]
    exact Nat.le_refl 0
  · show (stl _ _ _).1 0 7 = _
    rw [stl_1]; rfl
  · show (stl _ _ _).1 38 3 = _
    rw [stl_1]
    show T.1 38 3 = _
    rw [hi _ _ rfl, hS]; exact i3
  · show (stl _ _ _).1 0 8 = _
    rw [stl_1]; rfl
  · show (stl _ _ _).1 38 4 = _
    rw [stl_1]
    show T.1 38 4 = _
    rw [hi _ _ rfl, hS]; exact i4
  · obtain ⟨s1, s2⟩ := stl_at (bgn (uI (uI (uI T 0 7 (nI n)) 0 8 (nI t)) 0 10 0)) (fun k => (kn (chr P (3 * n - 1 + 1 + 4 * k))).toInt.toNat) t j hj
    refine ⟨(kn (chr P (3 * n - 1 + 1 + 4 * j))).toInt.toNat, _, by rw [hkd j hj]; exact KX_le X j, ?_, s1, s2⟩
    show (stl _ _ _).2.1 44 j = _
    rw [stl_2, hkd j hj]
    show T.2.1 44 j = _
    rw [ha _ rfl, hS]
    exact (uu j hj).1.1
  · show (stl _ _ _).2.1 10 i = (stl _ _ _).2.1 40 i ∧ ∃ q : Nat, q < 36 ∧ (stl _ _ _).2.1 40 i = nI q
    rw [stl_2]
    show cpy 6 (T.2.1 4) _ i = T.2.1 40 i ∧ ∃ q : Nat, q < 36 ∧ T.2.1 40 i = nI q
    rw [cpy_lt (by omega), (p4 i (by omega)).1, cz_is (w1 i hi').1 (w1 i hi').2, ha 40 rfl, hS]
    exact ⟨(u1 i hi').1.symm, c i, (u1 i hi').2, (u1 i hi').1⟩
  · show (stl _ _ _).2.1 11 i = (stl _ _ _).2.1 42 i
    rw [stl_2]
    show cpy 6 (fun _ => 0) _ i = T.2.1 42 i
    rw [cpy_lt hi', ha 42 rfl, hS]
    exact (congrFun (rz 42 (by decide) (by decide) (by decide) (by decide) (by decide)) i).symm
  · show (stl _ _ _).2.1 12 i = (stl _ _ _).2.1 43 i
    rw [stl_2]
    show cpy 6 (fun _ => 0) _ i = T.2.1 43 i
    rw [cpy_lt hi', ha 43 rfl, hS]
    exact (congrFun (rz 43 (by decide) (by decide) (by decide) (by decide) (by decide)) i).symm
  · show (stl _ _ _).2.1 11 i = _
    rw [stl_2]
    exact cpy_lt (s := fun _ => (0 : Int32)) hi'
  · show (stl _ _ _).2.1 12 i = _
    rw [stl_2]
    exact cpy_lt (s := fun _ => (0 : Int32)) hi'
  · show (stl _ _ _).2.1 41 i = _
    rw [stl_2]
    show T.2.1 41 i = _
    rw [ha 41 rfl, hS]
    exact congrFun (rz 41 (by decide) (by decide) (by decide) (by decide) (by decide)) i
  · show (stl _ _ _).1 9 7 = _
    rw [stl_1]
    refine bN_zero fun k hk => ?_
    show decide ((stl _ _ _).2.1 41 k = 1) = false
    rw [stl_2]
    show decide (T.2.1 41 k = 1) = false
    rw [ha 41 rfl, hS]
    show decide (P.2.1 41 k = 1) = false
    rw [rz 41 (by decide) (by decide) (by decide) (by decide) (by decide)]
    rfl
  · show (stl _ _ _).2.1 13 j = (stl _ _ _).2.1 45 j
    rw [stl_2]
    show cpy 4 (T.2.1 6) _ j = T.2.1 45 j
    rw [cpy_lt (by omega), p6 j (by omega), show 3 * n - 1 + 2 + 4 * j = 3 * n - 1 + 4 * j + 2 by omega, (w3 j hj).2.2.1, s48, ha 45 rfl, hS]
    exact (uu j hj).1.2.1.symm
  · show (stl _ _ _).2.1 14 j = (stl _ _ _).2.1 46 j
    rw [stl_2]
    show cpy 4 (T.2.1 7) _ j = T.2.1 46 j
    rw [cpy_lt (by omega), p7 j (by omega), show 3 * n - 1 + 3 + 4 * j = 3 * n - 1 + 4 * j + 3 by omega, (w3 j hj).2.2.2, s48, ha 46 rfl, hS]
    exact (uu j hj).1.2.2.symm
  · show (stl _ _ _).2.1 45 j = _
    rw [stl_2]
    show T.2.1 45 j = _
    rw [ha 45 rfl, hS]
    exact (uu j hj).1.2.1
  · show (stl _ _ _).2.1 46 j = _
    rw [stl_2]
    show T.2.1 46 j = _
    rw [ha 46 rfl, hS]
    exact (uu j hj).1.2.2
  · show (stl _ _ _).2.1 15 j = (stl _ _ _).2.1 47 j
    rw [stl_2]
    show cpy 4 (fun _ => 0) _ j = T.2.1 47 j
    rw [cpy_lt (by omega), ha 47 rfl, hS]
    exact (congrFun (rz 47 (by decide) (by decide) (by decide) (by decide) (by decide)) j).symm
  · show (stl _ _ _).1 9 11 = sm ((stl _ _ _).2.1 47) t
    rw [stl_1, stl_2]
    show (0 : Int32) = sm (T.2.1 47) t
    rw [ha 47 rfl, hS]
    show (0 : Int32) = sm (P.2.1 47) t
    rw [rz 47 (by decide) (by decide) (by decide) (by decide) (by decide), sm_0]
  · show (stl _ _ _).1 9 8 = (stl _ _ _).1 38 5
    rw [stl_1]
    show (0 : Int32) = T.1 38 5
    rw [hi _ _ rfl, hS]
    exact i5.symm
  · show (stl _ _ _).1 38 5 = _
    rw [stl_1]
    show T.1 38 5 = _
    rw [hi _ _ rfl, hS]
    exact i5
  · show (stl _ _ _).1 9 9 = (stl _ _ _).1 38 6
    rw [stl_1]
    show (60 : Int32) = T.1 38 6
    rw [hi _ _ rfl, hS]
    exact i6.symm
  · show (stl _ _ _).1 9 10 = (stl _ _ _).1 38 7
    rw [stl_1]
    show (0 : Int32) = T.1 38 7
    rw [hi _ _ rfl, hS]
    exact i7.symm
  · show (stl _ _ _).1 38 7 = _
    rw [stl_1]
    show T.1 38 7 = _
    rw [hi _ _ rfl, hS]
    exact i7
  · show (stl _ _ _).1 9 11 = _
    rw [stl_1]
    rfl
