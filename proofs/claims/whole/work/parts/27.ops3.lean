theorem aN_of {w : mW} {a n : Nat} {f : Nat → Int32} (h : aG w (some a) = some (n, f)) : aN w (some a) = some (nI n) := by
  unfold aN
  rw [h]
  rfl
theorem aL_of {w : mW} {a n : Nat} {f : Nat → Int32} (h : aG w (some a) = some (n, f)) (hn : n < 2 ^ 31) {k : Nat} (hk : k < n) : aL w (some a) (nI k) = some (f k) := by
  have e := ix hk hn
  unfold aL
  rw [h]
  simp only [e.1]
  rw [if_pos ⟨hk, e.2⟩]
theorem aS_of {w : mW} {a n : Nat} {f : Nat → Int32} (h : aG w (some a) = some (n, f)) (hn : n < 2 ^ 31) {k : Nat} (hk : k < n) (x : Int32) : aS w (some a) (nI k) x = some (w.set a (.inr (.inl (n, upd f k x)))) := by
  have e := ix hk hn
  unfold aS
  rw [h]
  simp only [e.1]
  rw [if_pos ⟨hk, e.2⟩]
  rfl
theorem mT_ext {S T : mT} (h1 : S.1 = T.1) (h2 : ∀ r, S.2.1 r = T.2.1 r) (h3 : S.2.2 = T.2.2) : S = T := Prod.ext h1 (Prod.ext (funext h2) h3)
theorem uA_id {S : mT} {a : Nat} : uA S a (S.2.1 a) = S := by
  refine mT_ext rfl (fun r => ?_) rfl
  show (if r = a then S.2.1 a else S.2.1 r) = S.2.1 r
  by_cases h : r = a
  · rw [if_pos h, h]
  · rw [if_neg h]
theorem uA_n {S : mT} {a b : Nat} {f : Nat → Int32} (h : a ≠ b) : (uA S b f).2.1 a = S.2.1 a := if_neg h
/-- a loop with nothing to keep but its number -/
theorem loopK {β : Type} (F : Nat → Nat → Option β) (n : Nat) (r : β) (hs : ∀ m k, k < n → F (m + 1) k = F m (k + 1)) (he : ∀ m, F (m + 1) n = some r) (m : Nat) (hm : n < m) : F m 0 = some r :=
  loopG (fun m (_ : Unit) k => F m k) n (fun _ a => a) (fun _ => r) () (fun m k _ hk => hs m k hk) (fun m _ => he m) m hm
def cpy (n : Nat) (src old : Nat → Int32) : Nat → Int32 := fun j => if j < n then src j else old j
theorem cpy_lt {n i : Nat} {s o : Nat → Int32} (h : i < n) : cpy n s o i = s i := if_pos h
theorem cpy_0 {s o : Nat → Int32} : cpy 0 s o = o := funext fun j => if_neg (by omega)
theorem cpy_s {n : Nat} {s o : Nat → Int32} : upd (cpy n s o) n (s n) = cpy (n + 1) s o := funext fun j => by
  show (if j = n then s n else if j < n then s j else o j) = if j < n + 1 then s j else o j
  by_cases h : j = n
  · rw [if_pos h, if_pos (by omega), h]
  · rw [if_neg h]
    by_cases h2 : j < n
    · rw [if_pos h2, if_pos (by omega)]
    · rw [if_neg h2, if_neg (by omega)]
def cop (S : mT) (a b n : Nat) : mT := uA S b (cpy n (S.2.1 a) (S.2.1 b))
theorem cop_1 {S : mT} {a b n : Nat} : (cop S a b n).1 = S.1 := rfl
theorem cop_n {S : mT} {a b n r : Nat} (h : r ≠ b) : (cop S a b n).2.1 r = S.2.1 r := if_neg h
theorem cop_s {S : mT} {a b n i : Nat} (h : i < n) : (cop S a b n).2.1 b i = S.2.1 a i := by
  unfold cop
  rw [uA_s, cpy_lt h]
theorem s_copyC (a b n : Nat) (hn : n < 1000) (hab : a ≠ b) (ga : ∀ S, aG (mk S) (some a) = some (n, S.2.1 a)) (gb : ∀ S, aG (mk S) (some b) = some (n, S.2.1 b)) (wb : ∀ S f, (mk S).set b (.inr (.inl (n, f))) = mk (uA S b f)) (S : mT) : f_X10_copy (some a) (some b) (mk S) = some (mk (cop S a b n)) := by
  have hl := loopK (fun m k => f_X10_copy_L2 (some a) (some b) m (nI k) (mk (uA S b (cpy k (S.2.1 a) (S.2.1 b))))) n (mk (cop S a b n)) ?_ ?_ mFuel (by unfold mFuel; omega)
  · simp only [f_X10_copy]
    have h0 : uA S b (cpy 0 (S.2.1 a) (S.2.1 b)) = S := by rw [cpy_0, uA_id]
    rw [h0] at hl
    rw [show f_X10_copy_L2 (some a) (some b) mFuel 0 (mk S) = _ from hl]
    rfl
  · intro m k hk
    simp only [f_X10_copy_L2, oC_s, oC_n]
    rw [aN_of (ga _), Option.bind_some, if_neg (show ¬ nI n ≤ nI k by rw [n_le (by omega) (by omega)]; omega), aL_of (ga _) (by omega) hk, Option.bind_some, s_put (gb _) (by omega) hk, Option.bind_some, wb, uA_n hab, uA_s, cpy_s, uA_u, nI_1]
  · intro m
    simp only [f_X10_copy_L2, oC_s, oC_n]
    rw [aN_of (ga _), Option.bind_some, if_pos (show nI n ≤ nI n by rw [n_le (by omega) (by omega)]; omega)]
    rfl
theorem s_copyR (a b n : Nat) (hn : n < 1000) (hab : a ≠ b) (ga : ∀ S, aG (mk S) (some a) = some (n, S.2.1 a)) (gb : ∀ S, aG (mk S) (some b) = some (n, S.2.1 b)) (wb : ∀ S f, (mk S).set b (.inr (.inl (n, f))) = mk (uA S b f)) (S : mT) : f_X11_copy (some a) (some b) (mk S) = some (mk (cop S a b n)) := by
  have hl := loopK (fun m k => f_X11_copy_L2 (some a) (some b) m (nI k) (mk (uA S b (cpy k (S.2.1 a) (S.2.1 b))))) n (mk (cop S a b n)) ?_ ?_ mFuel (by unfold mFuel; omega)
  · simp only [f_X11_copy]
    have h0 : uA S b (cpy 0 (S.2.1 a) (S.2.1 b)) = S := by rw [cpy_0, uA_id]
    rw [h0] at hl
    rw [show f_X11_copy_L2 (some a) (some b) mFuel 0 (mk S) = _ from hl]
    rfl
  · intro m k hk
    simp only [f_X11_copy_L2]
    rw [aN_of (ga _), Option.bind_some, if_neg (show ¬ nI n ≤ nI k by rw [n_le (by omega) (by omega)]; omega), aL_of (ga _) (by omega) hk, Option.bind_some, aS_of (gb _) (by omega) hk, Option.bind_some, wb, uA_n hab, uA_s, cpy_s, uA_u, nI_1]
  · intro m
    simp only [f_X11_copy_L2]
    rw [aN_of (ga _), Option.bind_some, if_pos (show nI n ≤ nI n by rw [n_le (by omega) (by omega)]; omega)]
    rfl
theorem s_clear (b n : Nat) (hn : n < 1000) (gb : ∀ S, aG (mk S) (some b) = some (n, S.2.1 b)) (wb : ∀ S f, (mk S).set b (.inr (.inl (n, f))) = mk (uA S b f)) (S : mT) : f_X10_clear (some b) (mk S) = some (mk (uA S b (cpy n (fun _ => 0) (S.2.1 b)))) := by
  have hl := loopK (fun m k => f_X10_clear_L2 (some b) m (nI k) (mk (uA S b (cpy k (fun _ => 0) (S.2.1 b))))) n (mk (uA S b (cpy n (fun _ => 0) (S.2.1 b)))) ?_ ?_ mFuel (by unfold mFuel; omega)
  · simp only [f_X10_clear]
    have h0 : uA S b (cpy 0 (fun _ => 0) (S.2.1 b)) = S := by rw [cpy_0, uA_id]
    rw [h0] at hl
    rw [show f_X10_clear_L2 (some b) mFuel 0 (mk S) = _ from hl]
    rfl
  · intro m k hk
    simp only [f_X10_clear_L2, oC_s, oC_n]
    rw [aN_of (gb _), Option.bind_some, if_neg (show ¬ nI n ≤ nI k by rw [n_le (by omega) (by omega)]; omega), aS_of (gb _) (by omega) hk, Option.bind_some, wb, uA_s, uA_u, nI_1, ← cpy_s]
  · intro m
    simp only [f_X10_clear_L2, oC_s, oC_n]
    rw [aN_of (gb _), Option.bind_some, if_pos (show nI n ≤ nI n by rw [n_le (by omega) (by omega)]; omega)]
theorem NR_copy {S T : mT} {n t o o' : Nat} {R Q R' Q' : Nat → Nat} (hn : n ≤ 6) (ht : t ≤ 4) (h : NR S n t o R Q)
    (e1 : T.1 (o' + 7) 3 = S.1 (o + 7) 3) (e2 : T.1 38 (Q' 4) = S.1 38 (Q 4))
    (r1 : ∀ i, i < 6 → T.2.1 (o' + 8) i = S.2.1 (o + 8) i) (r2 : ∀ i, i < 6 → T.2.1 (o' + 9) i = S.2.1 (o + 9) i) (r3 : ∀ i, i < 6 → T.2.1 (o' + 10) i = S.2.1 (o + 10) i) (r4 : ∀ i, i < 18 → T.2.1 (R' 7) i = S.2.1 (R 7) i)
    (c1 : ∀ i, i < 6 → T.2.1 (o' + 1) i = S.2.1 (o + 1) i) (c2 : ∀ i, i < 6 → T.2.1 (o' + 2) i = S.2.1 (o + 2) i) (c3 : ∀ i, i < 6 → T.2.1 (o' + 3) i = S.2.1 (o + 3) i) (c4 : ∀ i, i < 4 → T.2.1 (o' + 4) i = S.2.1 (o + 4) i) (c5 : ∀ i, i < 4 → T.2.1 (o' + 5) i = S.2.1 (o + 5) i) (c6 : ∀ i, i < 4 → T.2.1 (o' + 6) i = S.2.1 (o + 6) i)
    (d0 : ∀ i, i < 6 → T.2.1 (R' 0) i = S.2.1 (R 0) i) (d1 : ∀ i, i < 6 → T.2.1 (R' 1) i = S.2.1 (R 1) i) (d2 : ∀ i, i < 6 → T.2.1 (R' 2) i = S.2.1 (R 2) i) (d3 : ∀ i, i < 6 → T.2.1 (R' 3) i = S.2.1 (R 3) i) (d4 : ∀ i, i < 4 → T.2.1 (R' 4) i = S.2.1 (R 4) i) (d5 : ∀ i, i < 4 → T.2.1 (R' 5) i = S.2.1 (R 5) i) (d6 : ∀ i, i < 4 → T.2.1 (R' 6) i = S.2.1 (R 6) i)
    (f7 : T.1 o' 7 = S.1 o 7) (f8 : T.1 o' 8 = S.1 o 8) (f9 : T.1 o' 9 = S.1 o 9) (f10 : T.1 o' 10 = S.1 o 10) (f11 : T.1 o' 11 = S.1 o 11)
    (q0 : T.1 38 (Q' 0) = S.1 38 (Q 0)) (q1 : T.1 38 (Q' 1) = S.1 38 (Q 1)) (q2 : T.1 38 (Q' 2) = S.1 38 (Q 2)) (q3 : T.1 38 (Q' 3) = S.1 38 (Q 3)) : NR T n t o' R' Q' := by
  obtain ⟨⟨c, s1, s2, s3, s4⟩, g2, g3, ⟨g4, g5⟩, g6, ⟨g7, g8, ⟨g9, x, hx, g10⟩, g11, y, hy, g12⟩⟩ := h
  refine ⟨⟨c, s1, e1.trans s2, e2.trans s3, fun i hi => ?_⟩, fun i hi => ?_, fun i hi => ?_, ⟨fun i hi => ?_, ?_⟩, fun j hj => ?_, ?_, ?_, ⟨?_, x, hx, q2.trans g10⟩, ?_, y, hy, q3.trans g12⟩
  · obtain ⟨k1, k2, k3⟩ := s4 i hi
    rw [r1 i (by omega), r2 i (by omega), r3 i (by omega), r4 _ (show 3 * i < 18 by omega), r4 _ (show 3 * i + 1 < 18 by omega), r4 _ (show 3 * i + 2 < 18 by omega)]
    exact ⟨k1, k2, k3⟩
  · rw [c1 i (by omega), d0 i (by omega)]
    exact g2 i hi
  · rw [c2 i hi, c3 i hi, d2 i hi, d3 i hi]
    exact g3 i hi
  · rw [d1 i (by omega)]
    exact g4 i hi
  · rw [f7, g5]
    refine congrArg nI (bN_congr fun k hk => ?_)
    unfold cvB
    rw [d1 k (by omega)]
  · rw [c4 j (by omega), c5 j (by omega), c6 j (by omega), d4 j (by omega), d5 j (by omega), d6 j (by omega)]
    exact g6 j hj
  · rw [f8, q0]; exact g7
  · rw [f9, q1]; exact g8
  · rw [f10, q2]; exact g9
  · rw [f11, q3]; exact g11
-- 18 image
theorem bnd {α β : Type} {e : Option α} {a : α} {k : α → Option β} {y : Option β} (h : e = some a) (h2 : k a = y) : Option.bind e k = y := by
  rw [h]
  exact h2
def mvI (S : mT) (o k o' k' : Nat) : mT := uI S o' k' (S.1 o k)
def stf (S : mT) (o o' : Nat) : mT := mvI (cop (cop (cop S (o + 1) (o' + 1) 6) (o + 2) (o' + 2) 6) (o + 3) (o' + 3) 6) o 3 o' 3
def tkf (S : mT) (o o' : Nat) : mT := mvI (mvI (mvI (mvI (mvI (stf (cop (cop (cop (cop (cop (cop S (o + 1) (o' + 1) 6) (o + 2) (o' + 2) 6) (o + 3) (o' + 3) 6) (o + 4) (o' + 4) 4) (o + 5) (o' + 5) 4) (o + 6) (o' + 6) 4) (o + 7) (o' + 7)) o 7 o' 7) o 8 o' 8) o 9 o' 9) o 10 o' 10) o 11 o' 11
def rtk (S : mT) (R R' Q Q' : Nat → Nat) : mT := mvI (mvI (mvI (mvI (mvI (cop (cop (cop (cop (cop (cop (cop (cop S (R 0) (R' 0) 6) (R 1) (R' 1) 6) (R 2) (R' 2) 6) (R 3) (R' 3) 6) (R 4) (R' 4) 4) (R 5) (R' 5) 4) (R 6) (R' 6) 4) (R 7) (R' 7) 18) 38 (Q 0) 38 (Q' 0)) 38 (Q 1) 38 (Q' 1)) 38 (Q 2) 38 (Q' 2)) 38 (Q 3) 38 (Q' 3)) 38 (Q 4) 38 (Q' 4)
theorem s_stf27 (S : mT) : f_X6_takeFrom 27 (some 16) (mk S) = some (mk (stf S 16 27)) := by
  have key : ∀ T1 T2 T3 T4 : mT, T1 = cop S 17 28 6 → T2 = cop T1 18 29 6 → T3 = cop T2 19 30 6 → T4 = uI T3 27 3 (T3.1 16 3) → f_X6_takeFrom 27 (some 16) (mk S) = some (mk T4) := by
    intro T1 T2 T3 T4 h1 h2 h3 h4
    unfold f_X6_takeFrom
    rw [oC_s]
    refine bnd (rR_16_0 _) ?_
    refine bnd (rR_27_0 _) ?_
    refine bnd ((s_copyC 17 28 6 (by decide) (by decide) aG_17 aG_28 aW_28 _).trans (congrArg (fun x => some (mk x)) h1.symm)) ?_
    refine bnd (rR_16_1 _) ?_
    refine bnd (rR_27_1 _) ?_
    refine bnd ((s_copyC 18 29 6 (by decide) (by decide) aG_18 aG_29 aW_29 _).trans (congrArg (fun x => some (mk x)) h2.symm)) ?_
    refine bnd (rR_16_2 _) ?_
    refine bnd (rR_27_2 _) ?_
    refine bnd ((s_copyC 19 30 6 (by decide) (by decide) aG_19 aG_30 aW_30 _).trans (congrArg (fun x => some (mk x)) h3.symm)) ?_
    refine bnd (rI_16_3 _) ?_
    refine bnd ((wI_27_3 _ _).trans (congrArg (fun x => some (mk x)) h4.symm)) ?_
    rfl
  exact key _ _ _ _ rfl rfl rfl rfl
theorem s_stf16 (S : mT) : f_X6_takeFrom 16 (some 27) (mk S) = some (mk (stf S 27 16)) := by
  have key : ∀ T1 T2 T3 T4 : mT, T1 = cop S 28 17 6 → T2 = cop T1 29 18 6 → T3 = cop T2 30 19 6 → T4 = uI T3 16 3 (T3.1 27 3) → f_X6_takeFrom 16 (some 27) (mk S) = some (mk T4) := by
    intro T1 T2 T3 T4 h1 h2 h3 h4
    unfold f_X6_takeFrom
    rw [oC_s]
    refine bnd (rR_27_0 _) ?_
    refine bnd (rR_16_0 _) ?_
    refine bnd ((s_copyC 28 17 6 (by decide) (by decide) aG_28 aG_17 aW_17 _).trans (congrArg (fun x => some (mk x)) h1.symm)) ?_
    refine bnd (rR_27_1 _) ?_
    refine bnd (rR_16_1 _) ?_
    refine bnd ((s_copyC 29 18 6 (by decide) (by decide) aG_29 aG_18 aW_18 _).trans (congrArg (fun x => some (mk x)) h2.symm)) ?_
    refine bnd (rR_27_2 _) ?_
    refine bnd (rR_16_2 _) ?_
    refine bnd ((s_copyC 30 19 6 (by decide) (by decide) aG_30 aG_19 aW_19 _).trans (congrArg (fun x => some (mk x)) h3.symm)) ?_
    refine bnd (rI_27_3 _) ?_
    refine bnd ((wI_16_3 _ _).trans (congrArg (fun x => some (mk x)) h4.symm)) ?_
    rfl
  exact key _ _ _ _ rfl rfl rfl rfl
theorem s_tkf1 (S : mT) : f_X2_takeFrom 20 (some 9) (mk S) = some (mk (tkf S 9 20)) := by
  have key : ∀ T1 T2 T3 T4 T5 T6 T7 T8 T9 T10 T11 T12 : mT, T1 = cop S 10 21 6 → T2 = cop T1 11 22 6 → T3 = cop T2 12 23 6 → T4 = cop T3 13 24 4 → T5 = cop T4 14 25 4 → T6 = cop T5 15 26 4 → T7 = stf T6 16 27 → T8 = uI T7 20 7 (T7.1 9 7) → T9 = uI T8 20 8 (T8.1 9 8) → T10 = uI T9 20 9 (T9.1 9 9) → T11 = uI T10 20 10 (T10.1 9 10) → T12 = uI T11 20 11 (T11.1 9 11) → f_X2_takeFrom 20 (some 9) (mk S) = some (mk T12) := by
    intro T1 T2 T3 T4 T5 T6 T7 T8 T9 T10 T11 T12 h1 h2 h3 h4 h5 h6 h7 h8 h9 h10 h11 h12
    unfold f_X2_takeFrom
    rw [oC_s]
    refine bnd (rR_9_0 _) ?_
    refine bnd (rR_20_0 _) ?_
    refine bnd ((s_copyC 10 21 6 (by decide) (by decide) aG_10 aG_21 aW_21 _).trans (congrArg (fun x => some (mk x)) h1.symm)) ?_
    refine bnd (rR_9_1 _) ?_
    refine bnd (rR_20_1 _) ?_
    refine bnd ((s_copyC 11 22 6 (by decide) (by decide) aG_11 aG_22 aW_22 _).trans (congrArg (fun x => some (mk x)) h2.symm)) ?_
    refine bnd (rR_9_2 _) ?_
    refine bnd (rR_20_2 _) ?_
    refine bnd ((s_copyC 12 23 6 (by decide) (by decide) aG_12 aG_23 aW_23 _).trans (congrArg (fun x => some (mk x)) h3.symm)) ?_
    refine bnd (rR_9_3 _) ?_
    refine bnd (rR_20_3 _) ?_
    refine bnd ((s_copyC 13 24 4 (by decide) (by decide) aG_13 aG_24 aW_24 _).trans (congrArg (fun x => some (mk x)) h4.symm)) ?_
    refine bnd (rR_9_4 _) ?_
    refine bnd (rR_20_4 _) ?_
    refine bnd ((s_copyC 14 25 4 (by decide) (by decide) aG_14 aG_25 aW_25 _).trans (congrArg (fun x => some (mk x)) h5.symm)) ?_
    refine bnd (rR_9_5 _) ?_
    refine bnd (rR_20_5 _) ?_
    refine bnd ((s_copyC 15 26 4 (by decide) (by decide) aG_15 aG_26 aW_26 _).trans (congrArg (fun x => some (mk x)) h6.symm)) ?_
    refine bnd (rR_20_6 _) ?_
    refine bnd (rR_9_6 _) ?_
    refine bnd (kk_27 _) ?_
    refine bnd ((s_stf27 _).trans (congrArg (fun x => some (mk x)) h7.symm)) ?_
    refine bnd (rI_9_7 _) ?_
    refine bnd ((wI_20_7 _ _).trans (congrArg (fun x => some (mk x)) h8.symm)) ?_
    refine bnd (rI_9_8 _) ?_
    refine bnd ((wI_20_8 _ _).trans (congrArg (fun x => some (mk x)) h9.symm)) ?_
    refine bnd (rI_9_9 _) ?_
    refine bnd ((wI_20_9 _ _).trans (congrArg (fun x => some (mk x)) h10.symm)) ?_
    refine bnd (rI_9_10 _) ?_
    refine bnd ((wI_20_10 _ _).trans (congrArg (fun x => some (mk x)) h11.symm)) ?_
    refine bnd (rI_9_11 _) ?_
    refine bnd ((wI_20_11 _ _).trans (congrArg (fun x => some (mk x)) h12.symm)) ?_
    rfl
  exact key _ _ _ _ _ _ _ _ _ _ _ _ rfl rfl rfl rfl rfl rfl rfl rfl rfl rfl rfl rfl
theorem s_tkf2 (S : mT) : f_X2_takeFrom 9 (some 20) (mk S) = some (mk (tkf S 20 9)) := by
  have key : ∀ T1 T2 T3 T4 T5 T6 T7 T8 T9 T10 T11 T12 : mT, T1 = cop S 21 10 6 → T2 = cop T1 22 11 6 → T3 = cop T2 23 12 6 → T4 = cop T3 24 13 4 → T5 = cop T4 25 14 4 → T6 = cop T5 26 15 4 → T7 = stf T6 27 16 → T8 = uI T7 9 7 (T7.1 20 7) → T9 = uI T8 9 8 (T8.1 20 8) → T10 = uI T9 9 9 (T9.1 20 9) → T11 = uI T10 9 10 (T10.1 20 10) → T12 = uI T11 9 11 (T11.1 20 11) → f_X2_takeFrom 9 (some 20) (mk S) = some (mk T12) := by
    intro T1 T2 T3 T4 T5 T6 T7 T8 T9 T10 T11 T12 h1 h2 h3 h4 h5 h6 h7 h8 h9 h10 h11 h12
    unfold f_X2_takeFrom
    rw [oC_s]
    refine bnd (rR_20_0 _) ?_
    refine bnd (rR_9_0 _) ?_
    refine bnd ((s_copyC 21 10 6 (by decide) (by decide) aG_21 aG_10 aW_10 _).trans (congrArg (fun x => some (mk x)) h1.symm)) ?_
    refine bnd (rR_20_1 _) ?_
    refine bnd (rR_9_1 _) ?_
    refine bnd ((s_copyC 22 11 6 (by decide) (by decide) aG_22 aG_11 aW_11 _).trans (congrArg (fun x => some (mk x)) h2.symm)) ?_
    refine bnd (rR_20_2 _) ?_
    refine bnd (rR_9_2 _) ?_
    refine bnd ((s_copyC 23 12 6 (by decide) (by decide) aG_23 aG_12 aW_12 _).trans (congrArg (fun x => some (mk x)) h3.symm)) ?_
    refine bnd (rR_20_3 _) ?_
    refine bnd (rR_9_3 _) ?_
    refine bnd ((s_copyC 24 13 4 (by decide) (by decide) aG_24 aG_13 aW_13 _).trans (congrArg (fun x => some (mk x)) h4.symm)) ?_
    refine bnd (rR_20_4 _) ?_
    refine bnd (rR_9_4 _) ?_
    refine bnd ((s_copyC 25 14 4 (by decide) (by decide) aG_25 aG_14 aW_14 _).trans (congrArg (fun x => some (mk x)) h5.symm)) ?_
    refine bnd (rR_20_5 _) ?_
    refine bnd (rR_9_5 _) ?_
    refine bnd ((s_copyC 26 15 4 (by decide) (by decide) aG_26 aG_15 aW_15 _).trans (congrArg (fun x => some (mk x)) h6.symm)) ?_
    refine bnd (rR_9_6 _) ?_
    refine bnd (rR_20_6 _) ?_
    refine bnd (kk_16 _) ?_
    refine bnd ((s_stf16 _).trans (congrArg (fun x => some (mk x)) h7.symm)) ?_
    refine bnd (rI_20_7 _) ?_
    refine bnd ((wI_9_7 _ _).trans (congrArg (fun x => some (mk x)) h8.symm)) ?_
    refine bnd (rI_20_8 _) ?_
    refine bnd ((wI_9_8 _ _).trans (congrArg (fun x => some (mk x)) h9.symm)) ?_
    refine bnd (rI_20_9 _) ?_
    refine bnd ((wI_9_9 _ _).trans (congrArg (fun x => some (mk x)) h10.symm)) ?_
    refine bnd (rI_20_10 _) ?_
    refine bnd ((wI_9_10 _ _).trans (congrArg (fun x => some (mk x)) h11.symm)) ?_
    refine bnd (rI_20_11 _) ?_
    refine bnd ((wI_9_11 _ _).trans (congrArg (fun x => some (mk x)) h12.symm)) ?_
    rfl
  exact key _ _ _ _ _ _ _ _ _ _ _ _ rfl rfl rfl rfl rfl rfl rfl rfl rfl rfl rfl rfl
theorem s_imgR {S : mT} {n : Nat} (hn : n ≤ 6) (e : S.1 38 3 = nI n) (h0 : ¬ n = 0) : f_X11_image 38 (mk S) = some ((mvI (rtk S rNow rKept qNow qKept) 38 9 38 25).1 38 7, mk (mvI (rtk S rNow rKept qNow qKept) 38 9 38 25)) := by
  have key : ∀ T1 T2 T3 T4 T5 T6 T7 T8 T9 T10 T11 T12 T13 T14 : mT, T1 = cop S 40 52 6 → T2 = cop T1 41 53 6 → T3 = cop T2 42 54 6 → T4 = cop T3 43 55 6 → T5 = cop T4 45 56 4 → T6 = cop T5 46 57 4 → T7 = cop T6 47 58 4 → T8 = cop T7 51 59 18 → T9 = uI T8 38 26 (T8.1 38 5) → T10 = uI T9 38 27 (T9.1 38 6) → T11 = uI T10 38 28 (T10.1 38 7) → T12 = uI T11 38 29 (T11.1 38 8) → T13 = uI T12 38 30 (T12.1 38 22) → T14 = uI T13 38 25 (T13.1 38 9) → f_X11_image 38 (mk S) = some (T14.1 38 7, mk T14) := by
    intro T1 T2 T3 T4 T5 T6 T7 T8 T9 T10 T11 T12 T13 T14 h1 h2 h3 h4 h5 h6 h7 h8 h9 h10 h11 h12 h13 h14
    unfold f_X11_image
    rw [kk_38, Option.bind_some, s_lacks hn e, Option.bind_some, if_neg h0, if_pos rfl]
    refine bnd (rR_38_10 _) ?_
    refine bnd (rR_38_31 _) ?_
    refine bnd ((s_copyR 40 52 6 (by decide) (by decide) aG_40 aG_52 aW_52 _).trans (congrArg (fun x => some (mk x)) h1.symm)) ?_
    refine bnd (rR_38_11 _) ?_
    refine bnd (rR_38_32 _) ?_
    refine bnd ((s_copyR 41 53 6 (by decide) (by decide) aG_41 aG_53 aW_53 _).trans (congrArg (fun x => some (mk x)) h2.symm)) ?_
    refine bnd (rR_38_12 _) ?_
    refine bnd (rR_38_33 _) ?_
    refine bnd ((s_copyR 42 54 6 (by decide) (by decide) aG_42 aG_54 aW_54 _).trans (congrArg (fun x => some (mk x)) h3.symm)) ?_
    refine bnd (rR_38_13 _) ?_
    refine bnd (rR_38_34 _) ?_
    refine bnd ((s_copyR 43 55 6 (by decide) (by decide) aG_43 aG_55 aW_55 _).trans (congrArg (fun x => some (mk x)) h4.symm)) ?_
    refine bnd (rR_38_15 _) ?_
    refine bnd (rR_38_35 _) ?_
    refine bnd ((s_copyR 45 56 4 (by decide) (by decide) aG_45 aG_56 aW_56 _).trans (congrArg (fun x => some (mk x)) h5.symm)) ?_
    refine bnd (rR_38_16 _) ?_
    refine bnd (rR_38_36 _) ?_
    refine bnd ((s_copyR 46 57 4 (by decide) (by decide) aG_46 aG_57 aW_57 _).trans (congrArg (fun x => some (mk x)) h6.symm)) ?_
    refine bnd (rR_38_17 _) ?_
    refine bnd (rR_38_37 _) ?_
    refine bnd ((s_copyR 47 58 4 (by decide) (by decide) aG_47 aG_58 aW_58 _).trans (congrArg (fun x => some (mk x)) h7.symm)) ?_
    refine bnd (rR_38_23 _) ?_
    refine bnd (rR_38_38 _) ?_
    refine bnd ((s_copyR 51 59 18 (by decide) (by decide) aG_51 aG_59 aW_59 _).trans (congrArg (fun x => some (mk x)) h8.symm)) ?_
    refine bnd (rI_38_5 _) ?_
    refine bnd ((wI_38_26 _ _).trans (congrArg (fun x => some (mk x)) h9.symm)) ?_
    refine bnd (rI_38_6 _) ?_
    refine bnd ((wI_38_27 _ _).trans (congrArg (fun x => some (mk x)) h10.symm)) ?_
    refine bnd (rI_38_7 _) ?_
    refine bnd ((wI_38_28 _ _).trans (congrArg (fun x => some (mk x)) h11.symm)) ?_
    refine bnd (rI_38_8 _) ?_
    refine bnd ((wI_38_29 _ _).trans (congrArg (fun x => some (mk x)) h12.symm)) ?_
    refine bnd (rI_38_22 _) ?_
    refine bnd ((wI_38_30 _ _).trans (congrArg (fun x => some (mk x)) h13.symm)) ?_
    refine bnd (rI_38_9 _) ?_
    refine bnd ((wI_38_25 _ _).trans (congrArg (fun x => some (mk x)) h14.symm)) ?_
    refine bnd (rI_38_7 _) ?_
    rfl
  exact key _ _ _ _ _ _ _ _ _ _ _ _ _ _ rfl rfl rfl rfl rfl rfl rfl rfl rfl rfl rfl rfl rfl rfl
theorem s_rstR {S : mT} (h : S.1 38 25 = S.1 38 9) : f_X11_restore 38 (mk S) = some ((rtk S rKept rNow qKept qNow).1 38 7, mk (rtk S rKept rNow qKept qNow)) := by
  have key : ∀ T1 T2 T3 T4 T5 T6 T7 T8 T9 T10 T11 T12 T13 : mT, T1 = cop S 52 40 6 → T2 = cop T1 53 41 6 → T3 = cop T2 54 42 6 → T4 = cop T3 55 43 6 → T5 = cop T4 56 45 4 → T6 = cop T5 57 46 4 → T7 = cop T6 58 47 4 → T8 = cop T7 59 51 18 → T9 = uI T8 38 5 (T8.1 38 26) → T10 = uI T9 38 6 (T9.1 38 27) → T11 = uI T10 38 7 (T10.1 38 28) → T12 = uI T11 38 8 (T11.1 38 29) → T13 = uI T12 38 22 (T12.1 38 30) → f_X11_restore 38 (mk S) = some (T13.1 38 7, mk T13) := by
    intro T1 T2 T3 T4 T5 T6 T7 T8 T9 T10 T11 T12 T13 h1 h2 h3 h4 h5 h6 h7 h8 h9 h10 h11 h12 h13
    unfold f_X11_restore
    refine bnd (rI_38_25 _) ?_
    refine bnd (rI_38_9 _) ?_
    rw [if_pos h]
    refine bnd (rR_38_31 _) ?_
    refine bnd (rR_38_10 _) ?_
    refine bnd ((s_copyR 52 40 6 (by decide) (by decide) aG_52 aG_40 aW_40 _).trans (congrArg (fun x => some (mk x)) h1.symm)) ?_
    refine bnd (rR_38_32 _) ?_
    refine bnd (rR_38_11 _) ?_
    refine bnd ((s_copyR 53 41 6 (by decide) (by decide) aG_53 aG_41 aW_41 _).trans (congrArg (fun x => some (mk x)) h2.symm)) ?_
    refine bnd (rR_38_33 _) ?_
    refine bnd (rR_38_12 _) ?_
    refine bnd ((s_copyR 54 42 6 (by decide) (by decide) aG_54 aG_42 aW_42 _).trans (congrArg (fun x => some (mk x)) h3.symm)) ?_
    refine bnd (rR_38_34 _) ?_
    refine bnd (rR_38_13 _) ?_
    refine bnd ((s_copyR 55 43 6 (by decide) (by decide) aG_55 aG_43 aW_43 _).trans (congrArg (fun x => some (mk x)) h4.symm)) ?_
    refine bnd (rR_38_35 _) ?_
    refine bnd (rR_38_15 _) ?_
    refine bnd ((s_copyR 56 45 4 (by decide) (by decide) aG_56 aG_45 aW_45 _).trans (congrArg (fun x => some (mk x)) h5.symm)) ?_
    refine bnd (rR_38_36 _) ?_
    refine bnd (rR_38_16 _) ?_
    refine bnd ((s_copyR 57 46 4 (by decide) (by decide) aG_57 aG_46 aW_46 _).trans (congrArg (fun x => some (mk x)) h6.symm)) ?_
    refine bnd (rR_38_37 _) ?_
    refine bnd (rR_38_17 _) ?_
    refine bnd ((s_copyR 58 47 4 (by decide) (by decide) aG_58 aG_47 aW_47 _).trans (congrArg (fun x => some (mk x)) h7.symm)) ?_
    refine bnd (rR_38_38 _) ?_
    refine bnd (rR_38_23 _) ?_
    refine bnd ((s_copyR 59 51 18 (by decide) (by decide) aG_59 aG_51 aW_51 _).trans (congrArg (fun x => some (mk x)) h8.symm)) ?_
    refine bnd (rI_38_26 _) ?_
    refine bnd ((wI_38_5 _ _).trans (congrArg (fun x => some (mk x)) h9.symm)) ?_
    refine bnd (rI_38_27 _) ?_
    refine bnd ((wI_38_6 _ _).trans (congrArg (fun x => some (mk x)) h10.symm)) ?_
    refine bnd (rI_38_28 _) ?_
    refine bnd ((wI_38_7 _ _).trans (congrArg (fun x => some (mk x)) h11.symm)) ?_
    refine bnd (rI_38_29 _) ?_
    refine bnd ((wI_38_8 _ _).trans (congrArg (fun x => some (mk x)) h12.symm)) ?_
    refine bnd (rI_38_30 _) ?_
    refine bnd ((wI_38_22 _ _).trans (congrArg (fun x => some (mk x)) h13.symm)) ?_
    refine bnd (rI_38_7 _) ?_
    rfl
  exact key _ _ _ _ _ _ _ _ _ _ _ _ _ rfl rfl rfl rfl rfl rfl rfl rfl rfl rfl rfl rfl rfl
