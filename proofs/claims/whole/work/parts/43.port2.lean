theorem Inv.mono {N : Nat} {S : mT} (h : Inv N S) (hN : N + 1 ≤ 2000) : Inv (N + 1) S := by
  obtain ⟨n, t, p, L, ⟨a1, a2, a3, a4, a5, a6, a7, a8⟩, hr⟩ := h
  exact ⟨n, t, p, L, ⟨a1, a2, a3, by omega, hN, a6, by omega, a8⟩, hr⟩
theorem rd_le (c : Nat → Nat) : ∀ d e k, (rd c d e k).1 ≤ k + d
  | 0, e, k => Nat.le_refl k
  | d + 1, e, k => by
    rw [rd]
    by_cases h0 : e = 0
    · rw [if_pos h0]
      by_cases hg : goodA c k = true
      · rw [if_pos hg]
        have := rd_le c d (if k % 3 = 2 ∧ c k = 59 then k else 0) (k + 1)
        omega
      · rw [if_neg hg]
        show k ≤ _
        omega
    · rw [if_neg h0]
      by_cases hg : goodB c e k = true
      · rw [if_pos hg]
        have := rd_le c d e (k + 1)
        omega
      · rw [if_neg hg]
        show k ≤ _
        omega
def pR1 (A : mT) (n t e : Nat) : mT := uI (uI (uI A 38 2 (nI e)) 38 3 (nI n)) 38 4 (nI t)
def pR2 (A : mT) (c : Nat → Nat) (n : Nat) : mT := m40 A (cpy n (cz c) (A.2.1 40)) (cpy n (fun _ => 0) (A.2.1 41)) (cpy n (fun _ => 0) (A.2.1 42)) (cpy n (fun _ => 0) (A.2.1 43))
def pR3 (A : mT) (c : Nat → Nat) (t e : Nat) : mT := m44 A (cpy t (fun k => kn (c (e + 1 + 4 * k))) (A.2.1 44)) (cpy t (fun k => nI (c (e + 2 + 4 * k)) - 48) (A.2.1 45)) (cpy t (fun k => nI (c (e + 3 + 4 * k)) - 48) (A.2.1 46)) (cpy t (fun _ => 0) (A.2.1 47))
def poR (A : mT) (c : Nat → Nat) (n t e p : Nat) : mT := uI (uI (uI (uI (uI (uI (uI (pR3 (pR2 (pR1 A n t e) c n) c t e) 38 5 0) 38 6 60) 38 7 0) 38 8 0) 38 22 0) 38 9 (nI (p + 1))) 38 1 0
theorem bN_zero {p : Nat → Bool} {n : Nat} (h : ∀ k, k < n → p k = false) : (0 : Int32) = nI (bN p n) := by rw [bN_none h]; rfl
theorem Inv_port {A : mT} {c : Nat → Nat} {n t e p N : Nat} (hn : n ≤ 6) (ht : t ≤ 4) (hnt : n = 0 ↔ t = 0) (hp : p + 1 ≤ N + 1) (hN : N + 1 ≤ 2000) (hX : A.2.2.2.2.length ≤ 4 * (N + 1) ∧ mSz A.2.2.2.2 = 0)
    (i1 : A.1 0 7 = nI n) (i2 : A.1 0 8 = nI t) (i3 : A.1 0 9 = nI (p + 1)) (i4 : A.1 1 1 = 0) (i5 : A.1 0 10 = 0) (i6 : A.1 16 3 = 0) (i7 : A.1 9 7 = 0) (i8 : A.1 9 8 = 0) (i9 : A.1 9 9 = 60) (i10 : A.1 9 10 = 0) (i11 : A.1 9 11 = 0)
    (r10 : ∀ i, i < n → A.2.1 10 i = cz c i ∧ ∃ q : Nat, q < 36 ∧ cz c i = nI q) (r11 : ∀ i, i < 6 → A.2.1 11 i = 0) (r12 : ∀ i, i < 6 → A.2.1 12 i = 0) (r13 : ∀ j, j < t → A.2.1 13 j = nI (c (e + 2 + 4 * j)) - 48) (r14 : ∀ j, j < t → A.2.1 14 j = nI (c (e + 3 + 4 * j)) - 48) (r15 : ∀ j, j < 4 → A.2.1 15 j = 0)
    (hk : ∀ j, j < t → ∃ kd e0 : Nat, kd ≤ 4 ∧ kn (c (e + 1 + 4 * j)) = nI kd ∧ A.2.2.1 j = some (e0 + 60) ∧ A.2.2.2.2[e0]? = some (.inl (cls kd, []))) (hI : A.1 38 25 = -1 ∨ ∃ q : Nat, q < p + 1 ∧ A.1 38 25 = nI q) : Inv (N + 1) (poR A c n t e p) := by
  refine ⟨n, t, p + 1, 0, ⟨hn, ht, hnt, hp, hN, by omega, hX.1, hX.2⟩, ⟨i1, rfl, i2, rfl, i3, rfl, i4, rfl⟩, fun i hi => absurd hi (by omega), fun j hj => ?_, ⟨⟨0, by omega, i6, rfl, fun i hi => absurd hi (by omega)⟩, fun i hi => ?_, fun i hi => ⟨fun h => ?_, fun h => ⟨r11 i hi, r12 i hi⟩⟩, ⟨fun i hi => Or.inl (cpy_lt (s := fun _ => (0 : Int32)) (o := A.2.1 41) hi), ?_⟩, fun j hj => ?_, i8, i9, ⟨i10, 0, by omega, rfl⟩, i11, 0, by omega, rfl⟩, Or.inr ⟨i5, hI⟩⟩
  · obtain ⟨kd, e0, k1, k2, k3, k4⟩ := hk j hj
    refine ⟨kd, e0, k1, ?_, k3, k4⟩
    show cpy t (fun k => kn (c (e + 1 + 4 * k))) (A.2.1 44) j = _
    rw [cpy_lt hj, k2]
  · show A.2.1 10 i = cpy n (cz c) (A.2.1 40) i ∧ ∃ q : Nat, q < 36 ∧ cpy n (cz c) (A.2.1 40) i = nI q
    rw [cpy_lt hi]
    exact r10 i hi
  · show A.2.1 11 i = cpy n (fun _ => 0) (A.2.1 42) i ∧ A.2.1 12 i = cpy n (fun _ => 0) (A.2.1 43) i
    rw [cpy_lt h, cpy_lt h]
    exact ⟨r11 i hi, r12 i hi⟩
  · show A.1 9 7 = nI (bN (fun i => decide (cpy n (fun _ => 0) (A.2.1 41) i = 1)) n)
    rw [i7]
    exact bN_zero fun k hk => by rw [cpy_lt hk]; rfl
  · show A.2.1 13 j = cpy t (fun k => nI (c (e + 2 + 4 * k)) - 48) (A.2.1 45) j ∧ A.2.1 14 j = cpy t (fun k => nI (c (e + 3 + 4 * k)) - 48) (A.2.1 46) j ∧ A.2.1 15 j = cpy t (fun _ => 0) (A.2.1 47) j
    rw [cpy_lt hj, cpy_lt hj, cpy_lt hj]
    exact ⟨r13 j hj, r14 j hj, r15 j (by omega)⟩
theorem r_faultOf {A : mT} {c : Nat → Nat} {L : Nat} (hc : ∀ i, i < L → A.2.1 39 i = nI (c i) ∧ c i < 127) (hL : L ≤ 36) (eL : A.1 38 1 = nI L) : f_X11_faultOf 38 (mk A) = some (nI (rd c L 0 0).1, mk (uI A 38 2 (nI (rd c L 0 0).2))) := by
  have hr := r_read hc hL eL L 0 0 mFuel (by omega) (Or.inl rfl) (by unfold mFuel; omega)
  unfold f_X11_faultOf
  rw [wI_38_2, bS, show f_X11_faultOf_L7 38 mFuel 0 (mk (uI A 38 2 0)) = _ from hr, bS]
theorem r_portN {A : mT} {c : Nat → Nat} {L : Nat} (hc : ∀ i, i < L → A.2.1 39 i = nI (c i) ∧ c i < 127) (hL : L ≤ 36) (eL : A.1 38 1 = nI L) (h : ¬ ((rd c L 0 0).1 = L ∧ ¬ (rd c L 0 0).2 = 0 ∧ (rd c L 0 0).2 ≤ L ∧ (L - (rd c L 0 0).2) % 4 = 0)) (h2 : (rd c L 0 0).1 = L → (rd c L 0 0).2 ≤ L) : f_X11_port 38 (mk A) = some (-103, mk (uI A 38 2 (nI (rd c L 0 0).2))) := by
  have hle := rd_le c L 0 0
  unfold f_X11_port f_X11_port_J32
  rw [kk_38, bS, r_faultOf hc hL eL, bS]
  refine bnd (rI_38_1 _) ?_
  rw [show (uI A 38 2 (nI (rd c L 0 0).2)).1 38 1 = nI L from eL]
  by_cases h1 : (rd c L 0 0).1 = L
  · rw [if_neg (show ¬ nI (rd c L 0 0).1 < nI L by rw [n_lt (by omega) (by omega)]; omega)]
    refine bnd (rI_38_2 _) ?_
    have h3 := h2 h1
    rw [uI_s]
    by_cases h0 : (rd c L 0 0).2 = 0
    · rw [h0, if_pos (show nI 0 = (0 : Int32) from rfl)]
    · rw [if_neg (show ¬ nI (rd c L 0 0).2 = (0 : Int32) by rw [show (0 : Int32) = nI 0 from rfl, n_eq (by omega) (by omega)]; exact h0)]
      refine bnd (rI_38_1 _) ?_
      refine bnd (rI_38_2 _) ?_
      rw [uI_s, show (uI A 38 2 (nI (rd c L 0 0).2)).1 38 1 = nI L from eL, n_sub h3, show (4 : Int32) = nI 4 from rfl, n_rem3 (by omega) (by decide), if_neg]
      rw [show (0 : Int32) = nI 0 from rfl, n_eq (by omega) (by omega)]
      exact fun z => h ⟨h1, h0, h3, z⟩
  · rw [if_pos (show nI (rd c L 0 0).1 < nI L by rw [n_lt (by omega) (by omega)]; omega)]
theorem r_portY {A : mT} {c : Nat → Nat} {L e p : Nat} (hc : ∀ i, i < L → A.2.1 39 i = nI (c i) ∧ c i < 127) (hL : L ≤ 36) (eL : A.1 38 1 = nI L) (ep : A.1 38 9 = nI p) (h1 : (rd c L 0 0).1 = L) (h2 : (rd c L 0 0).2 = e) (h3 : e % 3 = 2 ∧ e ≤ 17 ∧ e < L ∧ L ≤ e + 16) (h4 : (L - e) % 4 = 0) : f_X11_port 38 (mk A) = some (nI ((e + 1) / 3), mk (poR A c ((e + 1) / 3) ((L - e) / 4) e p)) := by
  unfold f_X11_port f_X11_port_J32
  rw [kk_38, bS, r_faultOf hc hL eL, bS, h1, h2]
  refine bnd (rI_38_1 _) ?_
  rw [show (uI A 38 2 (nI e)).1 38 1 = nI L from eL, if_neg (show ¬ nI L < nI L by rw [n_lt (by omega) (by omega)]; omega)]
  refine bnd (rI_38_2 _) ?_
  rw [uI_s, if_neg (show ¬ nI e = (0 : Int32) by rw [show (0 : Int32) = nI 0 from rfl, n_eq (by omega) (by omega)]; omega)]
  refine bnd (rI_38_1 _) ?_
  refine bnd (rI_38_2 _) ?_
  rw [uI_s, show (uI A 38 2 (nI e)).1 38 1 = nI L from eL, n_sub (show e ≤ L by omega), show (4 : Int32) = nI 4 from rfl, n_rem3 (by omega) (by decide), h4, if_pos (show nI 0 = (0 : Int32) from rfl)]
  refine bnd (rI_38_2 _) ?_
  rw [uI_s, nI_1, show (3 : Int32) = nI 3 from rfl, n_div (by omega) (by decide)]
  refine bnd (wI_38_3 _ _) ?_
  refine bnd (rI_38_1 _) ?_
  refine bnd (rI_38_2 _) ?_
  rw [show (uI (uI A 38 2 (nI e)) 38 3 (nI ((e + 1) / 3))).1 38 1 = nI L from eL, show (uI (uI A 38 2 (nI e)) 38 3 (nI ((e + 1) / 3))).1 38 2 = nI e from rfl, n_sub (show e ≤ L by omega), n_div (by omega) (by decide)]
  refine bnd (wI_38_4 _ _) ?_
  refine bnd (r_row1 (S := pR1 A ((e + 1) / 3) ((L - e) / 4) e) (c := c) (L := L) (n := (e + 1) / 3) hc hL (by omega) (by omega) rfl) ?_
  refine bnd (r_row2 (S := pR2 (pR1 A ((e + 1) / 3) ((L - e) / 4) e) c ((e + 1) / 3)) (c := c) (L := L) (t := (L - e) / 4) (e := e) hc hL (by omega) (by omega) rfl rfl) ?_
  refine bnd (wI_38_5 _ _) ?_
  refine bnd (wI_38_6 _ _) ?_
  refine bnd (wI_38_7 _ _) ?_
  refine bnd (wI_38_8 _ _) ?_
  refine bnd (wI_38_22 _ _) ?_
  refine bnd (rI_38_9 _) ?_
  refine bnd (wI_38_9 _ _) ?_
  refine bnd (wI_38_1 _ _) ?_
  refine bnd (rI_38_3 _) ?_
  have e9 : ∀ B : mT, B.1 38 9 = nI p → B.1 38 9 + 1 = nI (p + 1) := fun B hB => by rw [hB, nI_1]
  show some (nI ((e + 1) / 3), mk (uI (uI (uI (uI (uI (uI (uI (pR3 (pR2 (pR1 A ((e + 1) / 3) ((L - e) / 4) e) c ((e + 1) / 3)) c ((L - e) / 4) e) 38 5 0) 38 6 60) 38 7 0) 38 8 0) 38 22 0) 38 9 (A.1 38 9 + 1)) 38 1 0)) = _
  rw [e9 A ep]
  rfl
-- the class settles
def poC (T : mT) (n t p : Nat) (kd : Nat → Nat) : mT := uI (uI (stl (bgn (uI (uI (uI T 0 7 (nI n)) 0 8 (nI t)) 0 10 0)) kd t) 1 1 0) 0 9 (nI (p + 1))
theorem c_settle {T : mT} {n t p : Nat} {kd : Nat → Nat} (ht : t ≤ 4) (e4 : T.1 3 4 = nI n) (e5 : T.1 3 5 = nI t) (hk : ∀ k, k < t → kd k ≤ 4 ∧ T.2.1 5 k = nI (kd k)) : f_X10_settle 0 (mk T) = some (mk (stl (bgn (uI (uI (uI T 0 7 (nI n)) 0 8 (nI t)) 0 10 0)) kd t)) := by
  unfold f_X10_settle
  refine bnd (rR_0_1 _) ?_
  refine bnd (rI_3_4 _) ?_
  rw [e4]
  refine bnd (wI_0_7 _ _) ?_
  refine bnd (rR_0_1 _) ?_
  refine bnd (rI_3_5 _) ?_
  rw [show (uI T 0 7 (nI n)).1 3 5 = nI t from e5]
  refine bnd (wI_0_8 _ _) ?_
  refine bnd (wZ_0_10 _ 0 (Or.inl rfl)) ?_
  refine bnd (rR_0_3 _) ?_
  refine bnd (rR_0_1 _) ?_
  refine bnd (kk_9 _) ?_
  refine bnd (s_bgn _) ?_
  refine bnd (s_stl (T := bgn (uI (uI (uI T 0 7 (nI n)) 0 8 (nI t)) 0 10 0)) ht rfl hk) ?_
  rfl
theorem op_port {N : Nat} {S : mT} (h : Inv N S) (hN1 : N + 1 ≤ 2000) : ∃ r S1 S2, f_X10_port 0 (mk S) = some (r, mk S1) ∧ f_X11_port 38 (mk S1) = some (r, mk S2) ∧ Inv (N + 1) S2 := by
  obtain ⟨n0, t0, p, L, ⟨a1, a2, a3, a4, a5, a6, a7⟩, ⟨b1, b2, b3, b4, b5, b6, b7, b8⟩, hP, hK, hN, hI⟩ := id h
  obtain ⟨k1, k2⟩ := pg_ok hP
  obtain ⟨T, t1, t2, t3⟩ := c_readAll k1 a6 b7
  have hle := rd_le (pg S) L 0 0
  have q1 : T.1 1 1 = nI L := by rw [ob_i t2 rfl]; exact b7
  have q2 : T.1 38 1 = nI L := by rw [ob_i t2 rfl]; exact b8
  have q3 : ∀ i, i < L → T.2.1 39 i = nI (pg S i) ∧ pg S i < 127 := fun i hi => by rw [ob_a t2 rfl]; exact k2 i hi
  have fin : ∀ (hx : ¬ ((rd (pg S) L 0 0).1 = L ∧ ¬ (rd (pg S) L 0 0).2 = 0 ∧ (rd (pg S) L 0 0).2 ≤ L ∧ (L - (rd (pg S) L 0 0).2) % 4 = 0)) (h2 : (rd (pg S) L 0 0).1 = L → (rd (pg S) L 0 0).2 ≤ L), f_X10_port 0 (mk S) = some (-103, mk T) → ∃ r S1 S2, f_X10_port 0 (mk S) = some (r, mk S1) ∧ f_X11_port 38 (mk S1) = some (r, mk S2) ∧ Inv (N + 1) S2 := by
    intro hx h2 hf
    exact ⟨-103, T, _, hf, r_portN q3 a6 q2 hx h2, (h.same ((ob_I rfl).trans t2)).mono hN1⟩
  by_cases hL : (rd (pg S) L 0 0).1 = L
  · have hs := t3 hL
    unfold CS at hs
    by_cases h0 : (rd (pg S) L 0 0).2 = 0
    · refine fin (fun z => z.2.1 h0) (fun _ => by omega) ?_
      rw [if_pos h0] at hs
      obtain ⟨o1, e1, p1, p2, p3, p4, p5⟩ := hs
      unfold f_X10_port f_X10_port_J31 f_X5_isWhole f_X5_isWhole_J14
      refine bnd (rR_0_1 _) ?_
      refine bnd (rR_0_0 _) ?_
      refine bnd (kk_3 _) ?_
      refine bnd (t1) ?_
      refine bnd (rR_0_0 _) ?_
      refine bnd (rI_1_1 _) ?_
      rw [q1, hL, if_neg (show ¬ nI L < nI L by rw [n_lt (by omega) (by omega)]; omega)]
      refine bnd (rR_0_1 _) ?_
      refine bnd (kk_3 _) ?_
      rw [rI_3_7, bS, p1, if_neg (show ¬ nI (L % 3) = (6 : Int32) by rw [show (6 : Int32) = nI 6 from rfl, n_eq (by omega) (by omega)]; omega), if_pos (Or.inl rfl), bS, if_pos rfl]
    · rw [if_neg h0] at hs
      obtain ⟨o1, ⟨e1, e2, e3, e4⟩, p1, p2, p3, p4, p5, p6, p7⟩ := hs
      by_cases h4 : (L - (rd (pg S) L 0 0).2) % 4 = 0
      · generalize he : (rd (pg S) L 0 0).2 = e at *
        have hkd : ∀ k, k < (L - e) / 4 → ((kn (pg S (e + 1 + 4 * k))).toInt.toNat ≤ 4 ∧ T.2.1 5 k = nI (kn (pg S (e + 1 + 4 * k))).toInt.toNat) ∧ kn (pg S (e + 1 + 4 * k)) = nI (kn (pg S (e + 1 + 4 * k))).toInt.toNat := by
          intro k hk
          obtain ⟨r1, r2⟩ := p5 k (by omega)
          rcases kn_ok (q3 (e + 1 + 4 * k) (by omega)).2 with hm | ⟨kd, hm1, hm2⟩
          · exact absurd hm r2
          · rw [r1, hm2, nT (by omega)]
            exact ⟨⟨hm1, rfl⟩, rfl⟩
        refine ⟨nI ((e + 1) / 3), poC T ((e + 1) / 3) ((L - e) / 4) p (fun k => (kn (pg S (e + 1 + 4 * k))).toInt.toNat), poR (poC T ((e + 1) / 3) ((L - e) / 4) p (fun k => (kn (pg S (e + 1 + 4 * k))).toInt.toNat)) (pg S) ((e + 1) / 3) ((L - e) / 4) e p, ?_, ?_, ?_⟩
        · unfold f_X10_port f_X10_port_J31 f_X5_isWhole f_X5_isWhole_J14
          refine bnd (rR_0_1 _) ?_
          refine bnd (rR_0_0 _) ?_
          refine bnd (kk_3 _) ?_
          refine bnd (t1) ?_
          refine bnd (rR_0_0 _) ?_
          refine bnd (rI_1_1 _) ?_
          rw [q1, hL, if_neg (show ¬ nI L < nI L by rw [n_lt (by omega) (by omega)]; omega)]
          refine bnd (rR_0_1 _) ?_
          refine bnd (kk_3 _) ?_
          rw [rI_3_7, bS, p1, show (L - e - 1) % 4 = 3 by omega, if_pos (show nI (3 + 3) = (6 : Int32) from rfl), if_pos (Or.inr rfl), bS, if_neg (show ¬ (1 : Int32) = 0 by decide)]
          refine bnd (kk_0 _) ?_
          refine bnd (c_settle (n := (e + 1) / 3) (t := (L - e) / 4) (p := p) (by omega) p2 p3 (fun k hk => (hkd k hk).1)) ?_
          refine bnd (rR_0_0 _) ?_
          refine bnd (wI_1_1 _ _) ?_
          refine bnd (rI_0_9 _) ?_
          refine bnd (wI_0_9 _ _) ?_
          refine bnd (rI_0_7 _) ?_
          have e9 : (uI (stl (bgn (uI (uI (uI T 0 7 (nI ((e + 1) / 3))) 0 8 (nI ((L - e) / 4))) 0 10 0)) (fun k => (kn (pg S (e + 1 + 4 * k))).toInt.toNat) ((L - e) / 4)) 1 1 0).1 0 9 = nI p := by
            show (stl _ _ _).1 0 9 = _
            rw [stl_1]
            show T.1 0 9 = _
            rw [ob_i t2 rfl]
            exact b5
          rw [e9, nI_1]
          refine congrArg some (Prod.ext ?_ rfl)
          show (stl _ _ _).1 0 7 = _
          rw [stl_1]
          rfl
        · refine r_portY (c := pg S) (L := L) (p := p) (fun i hi => ?_) a6 ?_ ?_ hL he ⟨e1, e2, e3, e4⟩ h4
          · show (stl _ _ _).2.1 39 i = _ ∧ _
            rw [stl_2]
            exact q3 i hi
          · show (stl _ _ _).1 38 1 = _
            rw [stl_1]
            exact q2
          · show (stl _ _ _).1 38 9 = _
            rw [stl_1]
            show T.1 38 9 = _
            rw [ob_i t2 rfl]
            exact b6
        · have hx : T.2.2.2.2 = S.2.2.2.2 := (congrArg (fun X : mT => X.2.2.2.2) t2 : (ob T).2.2.2.2 = (ob S).2.2.2.2)
          refine Inv_port (by omega) (by omega) (by omega) (by omega) hN1 ?_ ?_ ?_ rfl rfl ?_ ?_ ?_ ?_ ?_ ?_ ?_ (fun i hi => ?_) (fun i hi => ?_) (fun i hi => ?_) (fun j hj => ?_) (fun j hj => ?_) (fun j hj => ?_) (fun j hj => ?_) ?_
          · constructor
            · show (stl _ _ _).2.2.2.2.length ≤ _
              rw [stl_len]
              show T.2.2.2.2.length + _ ≤ _
              rw [hx]
              omega
            · show mSz (stl _ _ _).2.2.2.2 = 0
              rw [stl_sz]
              show mSz T.2.2.2.2 = 0
              rw [hx]
              exact a7.2
          all_goals first
            | (show (stl _ _ _).1 _ _ = _; rw [stl_1]; rfl)
            | skip
          · show (stl _ _ _).2.1 10 i = _ ∧ _
            rw [stl_2]
            exact ⟨(show cpy 6 (T.2.1 4) _ i = _ from (cpy_lt (by omega)).trans (p4 i hi).1), (p4 i hi).2⟩
          · show (stl _ _ _).2.1 11 i = _
            rw [stl_2]
            exact cpy_lt (s := fun _ => (0 : Int32)) hi
          · show (stl _ _ _).2.1 12 i = _
            rw [stl_2]
            exact cpy_lt (s := fun _ => (0 : Int32)) hi
          · show (stl _ _ _).2.1 13 j = _
            rw [stl_2]
            exact (show cpy 4 (T.2.1 6) _ j = _ from (cpy_lt (by omega)).trans (p6 j (by omega)))
          · show (stl _ _ _).2.1 14 j = _
            rw [stl_2]
            exact (show cpy 4 (T.2.1 7) _ j = _ from (cpy_lt (by omega)).trans (p7 j (by omega)))
          · show (stl _ _ _).2.1 15 j = _
            rw [stl_2]
            exact cpy_lt (s := fun _ => (0 : Int32)) hj
          · obtain ⟨s1, s2⟩ := stl_at (bgn (uI (uI (uI T 0 7 (nI ((e + 1) / 3))) 0 8 (nI ((L - e) / 4))) 0 10 0)) (fun k => (kn (pg S (e + 1 + 4 * k))).toInt.toNat) ((L - e) / 4) j hj
            exact ⟨_, _, (hkd j hj).1.1, (hkd j hj).2, s1, s2⟩
          · show (stl _ _ _).1 38 25 = -1 ∨ ∃ q : Nat, q < p + 1 ∧ (stl _ _ _).1 38 25 = nI q
            rw [stl_1]
            show T.1 38 25 = -1 ∨ ∃ q : Nat, q < p + 1 ∧ T.1 38 25 = nI q
            rw [ob_i t2 rfl]
            rcases hI with ⟨_, i2, _⟩ | ⟨_, i2 | ⟨q, i3, i4⟩⟩
            · exact Or.inr ⟨p, by omega, i2⟩
            · exact Or.inl i2
            · exact Or.inr ⟨q, by omega, i4⟩
      · refine fin (fun z => h4 z.2.2.2) (fun _ => by omega) ?_
        unfold f_X10_port f_X10_port_J31 f_X5_isWhole f_X5_isWhole_J14
        refine bnd (rR_0_1 _) ?_
        refine bnd (rR_0_0 _) ?_
        refine bnd (kk_3 _) ?_
        refine bnd (t1) ?_
        refine bnd (rR_0_0 _) ?_
        refine bnd (rI_1_1 _) ?_
        rw [q1, hL, if_neg (show ¬ nI L < nI L by rw [n_lt (by omega) (by omega)]; omega)]
        refine bnd (rR_0_1 _) ?_
        refine bnd (kk_3 _) ?_
        rw [rI_3_7, bS, p1, if_neg (show ¬ nI (3 + (L - (rd (pg S) L 0 0).2 - 1) % 4) = (6 : Int32) by rw [show (6 : Int32) = nI 6 from rfl, n_eq (by omega) (by omega)]; omega), if_pos (Or.inl rfl), bS, if_pos rfl]
  · refine fin (fun z => hL z.1) (fun z => absurd z hL) ?_
    unfold f_X10_port f_X10_port_J31
    refine bnd (rR_0_1 _) ?_
    refine bnd (rR_0_0 _) ?_
    refine bnd (kk_3 _) ?_
    refine bnd (t1) ?_
    refine bnd (rR_0_0 _) ?_
    refine bnd (rI_1_1 _) ?_
    rw [q1, if_pos (show nI (rd (pg S) L 0 0).1 < nI L by rw [n_lt (by omega) (by omega)]; omega)]
