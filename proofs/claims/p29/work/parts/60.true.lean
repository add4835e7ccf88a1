-- the law, from its entry
theorem law_i1 : f_X10_init 0 [.inl (10, new_X10)] = some ((mk S0).take 38) := rfl
theorem law_i2 : (mk S0).take 38 ++ [(.inr (.inl (6, fun _ => 0)) : mC)] ++ [(.inr (.inl (39, fun _ => 0)) : mC)] ++ [(.inr (.inl (36, fun _ => 0)) : mC)] = mk S0 := by
  show (mk S0).take 38 ++ [(.inr (.inl (6, fun _ => 0)) : mC)] ++ [(.inr (.inl (39, fun _ => 0)) : mC)] ++ [(.inr (.inl (36, fun _ => 0)) : mC)] = (mk S0).take 38 ++ [(.inr (.inl (6, bRow S0)) : mC)] ++ [(.inr (.inl (39, dRow S0)) : mC)] ++ [(.inr (.inl (36, fun _ => 0)) : mC)]
  rw [bRow0, dRow0]
theorem mk_sz1 (S : mT) : mSz (mk S) = 11 + (2 + (36 + (8 + (6 + (4 + (4 + (4 + (4 + (12 + (6 + (6 + (6 + (4 + (4 + (4 + (4 + (6 + (6 + (6 + (12 + (6 + (6 + (6 + (4 + (4 + (4 + (4 + (6 + (6 + (6 + (7 + (144 + (144 + (64 + (64 + (6 + (36 + (6 + (39 + (36 + (mSz S.2.2.2.2))))))))))))))))))))))))))))))))))))))))) := rfl
theorem mk_sz2 (y : Nat) : 11 + (2 + (36 + (8 + (6 + (4 + (4 + (4 + (4 + (12 + (6 + (6 + (6 + (4 + (4 + (4 + (4 + (6 + (6 + (6 + (12 + (6 + (6 + (6 + (4 + (4 + (4 + (4 + (6 + (6 + (6 + (7 + (144 + (144 + (64 + (64 + (6 + (36 + (6 + (39 + (36 + (y))))))))))))))))))))))))))))))))))))))))) = 753 + y := by
  simp only [← Nat.add_assoc, Nat.reduceAdd]
theorem mk_sz {n t m q : Nat} {S : mT} (h : Inv n t m q S) (hq : q ≤ 31) : (mk S).length ≤ 600000 ∧ mSz (mk S) ≤ 7302250 := by
  have a1 : S.2.2.2.2.length ≤ 35 := by
    have := h.1.2.2.2.1
    omega
  have a2 : mSz S.2.2.2.2 ≤ 124 := by
    have := h.1.2.2.2.2
    omega
  rw [mk_len, mk_sz1, mk_sz2]
  exact ⟨Nat.le_trans (Nat.add_le_add_left a1 41) (Nat.le_of_ble_eq_true rfl), Nat.le_trans (Nat.add_le_add_left a2 753) (Nat.le_of_ble_eq_true rfl)⟩
theorem law_true (X : mXs) (hL : X.1 ≤ 260) : ∃ w' : mW, f_L_law X [] = some (1, w') ∧ w'.length ≤ 600000 ∧ mSz w' ≤ 7302250 := by
  obtain ⟨n, t, c, P, p1, hP⟩ := l_port X hL
  obtain ⟨hPL, hch⟩ := PT_PL hP
  obtain ⟨⟨⟨n1, n2⟩, t1, t2⟩, ⟨i3, i4, i5, i6, i7⟩, iz, rz, ex, ⟨u1, u2, u3, u4⟩, uu⟩ := id hP
  have hrd := PL_rd hPL n1 n2 t1 t2 (fun e he => (u1 e he).2) u2
  have hsp := op_spell (P := P) (h := chr P) (L := 3 * n - 1 + 4 * t) (by omega) (iz 1 1 (by decide)) hch
  generalize hQ : spl P (3 * n - 1 + 4 * t) = Q at hsp
  have q1 : ∀ i, i < 3 * n - 1 + 4 * t → Q.2.1 2 i = nI (chr P i) ∧ chr P i < 127 := by
    intro i hi
    rw [← hQ]
    exact ⟨(cpy_lt (s := P.2.1 39) (o := P.2.1 2) hi).trans (hch i hi).1, (hch i hi).2.2⟩
  have q2 : Q.1 1 1 = nI (3 * n - 1 + 4 * t) := by rw [← hQ]; exact uI_s
  have q3 : Q.1 0 9 = nI 0 := by rw [← hQ]; exact iz 0 9 (by decide)
  obtain ⟨S1, f1, f2⟩ := c_fault q1 (by omega) q2 hrd
  obtain ⟨T, g1, g2, g3⟩ := c_port (S := S1) (h := chr P) (L := 3 * n - 1 + 4 * t) (e := 3 * n - 1) (p := 0) (fun i hi => by rw [ob_a f2 rfl]; exact q1 i hi) (by omega) (by rw [ob_i f2 rfl]; exact q2) (by rw [ob_i f2 rfl]; exact q3) hrd (by omega) (by omega)
  rw [show (3 * n - 1 + 1) / 3 = n by omega, show (3 * n - 1 + 4 * t - (3 * n - 1)) / 4 = t by omega] at g3
  have h0 := Inv_port hP hQ.symm f2 g1 g2
  generalize poC T n t 0 (fun k => (kn (chr P (3 * n - 1 + 1 + 4 * k))).toInt.toNat) = U at g3 h0
  obtain ⟨U1, s1, s2⟩ := op_stands h0
  obtain ⟨V, v1, v2⟩ := law_loop X hL 30 0 mFuel U1 s2 (by omega) (by unfold mFuel; omega)
  obtain ⟨_, ⟨_, c2, _, c4⟩, _⟩ := id v2
  obtain ⟨_, ⟨_, d2, _⟩, _⟩ := id h0
  have hn : (nI n).toInt = n := nT (by omega)
  have ht : (nI t).toInt = t := nT (by omega)
  have y0 : ¬ (0 ≤ (nI n).toInt ∧ (nI n).toInt < n) := by omega
  have y1 : ¬ (0 ≤ (nI t).toInt ∧ (nI t).toInt < t) := by omega
  have y2 : ∀ z : Int32, ¬ ((0 ≤ (nI t).toInt ∧ (nI t).toInt < t) ∧ 0 ≤ z.toInt ∧ z.toInt ≤ 35) := fun z w => y1 w.1
  have y3 : ∀ a : Nat, ¬ (0 ≤ (-1 : Int32).toInt ∧ (-1 : Int32).toInt < a) := fun a w => absurd w.1 (by decide)
  have y4 : ∀ z : Int32, ¬ ((0 ≤ z.toInt ∧ z.toInt < t) ∧ 0 ≤ (36 : Int32).toInt ∧ (36 : Int32).toInt ≤ 35) := fun z w => absurd w.2.2 (by decide)
  have y5 : ∀ z : Int32, ¬ ((0 ≤ z.toInt ∧ z.toInt < t) ∧ 0 ≤ (-1 : Int32).toInt ∧ (-1 : Int32).toInt ≤ 35) := fun z w => absurd w.2.1 (by decide)
  refine ⟨mk V, ?_, mk_sz v2 (by omega)⟩
  unfold f_L_law
  rw [bS]
  refine bnd law_i1 ?_
  rw [bS, bS, bS, law_i2]
  show Option.bind (f_L_portText X (0 : Int32) (some 38) (some 39) (some 40) (mk S0)) _ = _
  refine bnd p1 ?_
  show Option.bind (f_L_spell (some 0) (some 40) (nI (3 * n - 1 + 4 * t)) (mk P)) _ = _
  refine bnd hsp ?_
  refine (if_neg (show ¬ (1 : Int32) = 0 by decide)).trans ?_
  refine bnd (kk_0 _) ?_
  refine bnd f1 ?_
  refine (if_pos rfl).trans ?_
  refine bnd (kk_0 _) ?_
  refine bnd g3 ?_
  show Option.bind (aL (mk U) (some 38) (0 : Int32)) _ = _
  refine bnd (b0_L _) ?_
  refine (if_pos (show nI n = U.1 38 3 from d2.symm)).trans ?_
  show Option.bind (f_L_stands (some 0) (some 38) (some 39) (mk U)) _ = _
  refine bnd s1 ?_
  refine (if_neg (show ¬ (1 : Int32) = 0 by decide)).trans ?_
  show Option.bind (f_L_law_L79 X (some 0) (some 38) (some 39) (mk U1) mFuel (0 : Int32)) _ = _
  refine bnd (l_L79 X s2) ?_
  show Option.bind (f_L_law_L162 X (some 0) (some 38) (some 39) mFuel (0 : Int32) (mk U1)) _ = _
  refine bnd v1 ?_
  show Option.bind (aL (mk V) (some 38) (0 : Int32)) _ = _
  refine bnd (b0_L _) ?_
  show Option.bind (aL (mk V) (some 38) (1 : Int32)) _ = _
  refine bnd (b1_L _) ?_
  rw [c2, c4]
  show Option.bind (f_L_seasons (some 0) (some 38) (some 39) (60 : Int32) (0 : Int32) (mk V)) _ = _
  refine bnd (op_seasons v2 (k0 := 60) (s0 := 0) (by decide) (by decide) (by decide)) ?_
  refine (if_neg (show ¬ (1 : Int32) = 0 by decide)).trans ?_
  show Option.bind (f_L_seasons (some 0) (some 38) (some 39) (1 : Int32) (2147483647 : Int32) (mk V)) _ = _
  refine bnd (op_seasons v2 (k0 := 1) (s0 := 2147483647) (by decide) (by decide) (by decide)) ?_
  refine (if_neg (show ¬ (1 : Int32) = 0 by decide)).trans ?_
  refine bnd (kk_0 _) ?_
  refine bnd (x_sl v2 y0 _) ?_
  refine (if_pos rfl).trans ?_
  refine bnd (kk_0 _) ?_
  refine bnd (x_sl v2 (y3 n) _) ?_
  refine (if_pos rfl).trans ?_
  refine bnd (kk_0 _) ?_
  refine bnd (x_sl5 v2) ?_
  refine (if_pos rfl).trans ?_
  refine bnd (kk_0 _) ?_
  refine bnd (x_to v2 y1 _) ?_
  refine (if_pos rfl).trans ?_
  refine bnd (kk_0 _) ?_
  refine bnd (x_to v2 (y3 t) _) ?_
  refine (if_pos rfl).trans ?_
  refine bnd (kk_0 _) ?_
  refine bnd (x_to9 v2) ?_
  refine (if_pos rfl).trans ?_
  refine bnd (kk_0 _) ?_
  refine bnd (x_as v2 y1 _) ?_
  refine (if_pos rfl).trans ?_
  refine bnd (kk_0 _) ?_
  refine bnd (x_as5 v2) ?_
  refine (if_pos rfl).trans ?_
  refine bnd (kk_0 _) ?_
  refine bnd (x_lands v2 (y2 0)) ?_
  refine (if_pos rfl).trans ?_
  refine bnd (kk_0 _) ?_
  refine bnd (x_lands v2 (y4 0)) ?_
  refine (if_pos rfl).trans ?_
  refine bnd (kk_0 _) ?_
  refine bnd (x_covers v2 (y2 0)) ?_
  refine (if_pos rfl).trans ?_
  refine bnd (kk_0 _) ?_
  refine bnd (x_covers v2 (y5 0)) ?_
  refine (if_pos rfl).trans ?_
  refine bnd (kk_0 _) ?_
  refine bnd (x_toss v2 y1 _) ?_
  refine (if_pos rfl).trans ?_
  refine bnd (kk_0 _) ?_
  refine bnd (x_toss36 v2) ?_
  refine (if_pos rfl).trans ?_
  refine bnd (kk_0 _) ?_
  refine bnd x_wind2 ?_
  refine (if_pos rfl).trans ?_
  refine bnd (kk_0 _) ?_
  refine bnd x_windm ?_
  refine (if_pos rfl).trans ?_
  refine bnd (kk_0 _) ?_
  refine bnd (x_move v2 y0 _) ?_
  refine (if_pos rfl).trans ?_
  refine bnd (kk_0 _) ?_
  refine bnd (x_move36 v2) ?_
  refine (if_pos rfl).trans ?_
  refine bnd (kk_0 _) ?_
  refine bnd (x_train v2 y1 _ _) ?_
  refine (if_pos rfl).trans ?_
  refine bnd (kk_0 _) ?_
  refine bnd (x_train5 v2) ?_
  refine (if_pos rfl).trans ?_
  refine bnd (kk_0 _) ?_
  refine bnd (x_trainm v2) ?_
  refine (if_pos rfl).trans ?_
  refine bnd (kk_0 _) ?_
  refine bnd x_stir0 ?_
  refine (if_pos rfl).trans ?_
  refine bnd (kk_0 _) ?_
  refine bnd x_stir61 ?_
  refine (if_pos rfl).trans ?_
  refine bnd (kk_0 _) ?_
  refine bnd (x_odds v2 y0 _ _) ?_
  refine (if_pos rfl).trans ?_
  refine bnd (kk_0 _) ?_
  refine bnd (x_oddsT v2 (y2 0)) ?_
  refine (if_pos rfl).trans ?_
  refine bnd (kk_0 _) ?_
  refine bnd (x_oddsT v2 (y4 0)) ?_
  refine (if_pos rfl).trans ?_
  refine bnd (kk_0 _) ?_
  refine bnd (x_who v2 (by decide)) ?_
  refine (if_pos rfl).trans ?_
  refine bnd (kk_0 _) ?_
  refine bnd (x_who v2 (by decide)) ?_
  refine (if_pos rfl).trans ?_
  refine bnd (kk_0 _) ?_
  refine bnd x_seas1 ?_
  refine (if_pos rfl).trans ?_
  refine bnd (kk_0 _) ?_
  refine bnd x_seas2 ?_
  refine (if_pos rfl).trans ?_
  refine bnd (kk_0 _) ?_
  refine bnd x_seas3 ?_
  refine (if_pos rfl).trans ?_
  refine bnd (kk_0 _) ?_
  refine bnd x_seas4 ?_
  refine (if_pos rfl).trans ?_
  exact if_pos (Or.inr rfl)
