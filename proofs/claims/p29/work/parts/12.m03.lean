def f_X10_canLandAt_L2 (o : Nat) (v1 : Int32) (v2 : Int32) (w : mW) : Nat → Int32 → Option ((Int32) ⊕ (Unit))
  | 0, _ => none
  | n + 1, v3 => if (36 : Int32) ≤ v3 then (some (.inr ())) else (Option.bind (gR w (some o) 10 3) fun r1 => Option.bind (gI w r1 2 8) fun r2 => Option.bind (kO w (some o) 10) fun _ => Option.bind (f_X10_landing o v1 v3 r2 w) fun r3 => if r3 = v2 then (some (.inl (1 : Int32))) else ((f_X10_canLandAt_L2 o v1 v2 w n) (v3 + (1 : Int32))))
set_option maxRecDepth 100000 in
set_option maxHeartbeats 4000000 in
theorem e_X10_canLandAt_L2 {X : mXs} {r : Option mV} {w' : mW} (P : ((Int32) ⊕ (Unit)) → Prop) (o : Nat) (v1 : Int32) (v2 : Int32) (w : mW) (hret : ∀ y, P (.inl y) → r = (some (vi y)) ∧ w' = w) (hexit : ∀ y, P (.inr y) → mEv X M_X10_canLandAt 2 r w' 33 [none, none, none, none] [] w) : ∀ (n : Nat) (v3 : Int32) (e : (Int32) ⊕ (Unit)), f_X10_canLandAt_L2 o v1 v2 w n v3 = some e → P e → mEv X M_X10_canLandAt 2 r w' 2 [some (vr ((some o))), some (vi v1), some (vi v2), some (vi v3)] [] w := by
  intro n
  induction n with
  | zero =>
    intro v3 e h hP
    rw [f_X10_canLandAt_L2] at h
    cases h
  | succ n hk =>
    intro v3 e h hP
    rw [f_X10_canLandAt_L2] at h
    refine ev_iload_n (q := 3) dX10_canLandAt_2 rfl rfl ?_
    refine ev_bipush (q := 5) (v := (36 : Int32)) dX10_canLandAt_3 rfl (by decide) ?_
    by_cases hc : (36 : Int32) ≤ v3
    · rw [if_pos hc] at h
      refine ev_icmp_ge_t (q := 33) dX10_canLandAt_5 (by decide) hc ?_
      cases h
      exact ev_weak _ (mLe_none (mLe_none (mLe_none (mLe_none mLe_nil)))) (hexit _ hP)
    · rw [if_neg hc] at h
      refine ev_icmp_ge_f (q := 8) (t0 := 33) dX10_canLandAt_5 (by decide) rfl hc ?_
      refine ev_aload_n (q := 9) dX10_canLandAt_8 rfl rfl ?_
      refine ev_iload_n (q := 10) dX10_canLandAt_9 rfl rfl ?_
      refine ev_iload_n (q := 11) dX10_canLandAt_10 rfl rfl ?_
      refine ev_aload_n (q := 12) dX10_canLandAt_11 rfl rfl ?_
      replace h := Option.bind_eq_some_iff.mp h; obtain ⟨r1, hr1, h⟩ := h
      refine ev_gR dX10_canLandAt_12 fl_X10_32 hr1 rfl ?_
      replace h := Option.bind_eq_some_iff.mp h; obtain ⟨r2, hr2, h⟩ := h
      refine ev_gI dX10_canLandAt_15 fl_X10_146 hr2 rfl ?_
      replace h := Option.bind_eq_some_iff.mp h; obtain ⟨q4, hq4, h⟩ := h
      obtain ⟨hxq4, fsq4, hkq4⟩ := kO_spec hq4
      cases hxq4
      replace h := Option.bind_eq_some_iff.mp h; obtain ⟨r3, hr3, h⟩ := h
      refine ev_invV (M1 := M_X10_landing) (as := [vi v1, vi v3, vi r2]) (fs := fsq4) (ci := 10) dX10_canLandAt_18 rfl tw_465 cal_X10_landing tw_467 tw_13 (by decide) rfl rfl (Nat.le_of_ble_eq_true rfl) hkq4 rfl (met_X10_landing o v1 v3 r2 w _ hr3) ?_
      refine ev_iload_n (q := 22) dX10_canLandAt_21 rfl rfl ?_
      by_cases hc : r3 = v2
      · rw [if_pos hc] at h
        refine ev_icmp_ne_f (q := 25) (t0 := 27) dX10_canLandAt_22 (by decide) rfl hc ?_
        refine ev_iconst (q := 26) (v := (1 : Int32)) dX10_canLandAt_25 rfl (by decide) ?_
        cases h
        obtain ⟨hr1, hr2⟩ := hret _ hP
        subst hr1
        subst hr2
        exact ev_zret dX10_canLandAt_26 rfl (Or.inr rfl)
      · rw [if_neg hc] at h
        refine ev_icmp_ne_t (q := 27) dX10_canLandAt_22 (by decide) hc ?_
        refine ev_iinc (q := 30) (v := v3 + (1 : Int32)) dX10_canLandAt_27 rfl (by decide) rfl (by rfl) ?_
        refine ev_goto (q := 2) dX10_canLandAt_30 (by decide) ?_
        exact ev_weak _ (mLe_some (mLe_some (mLe_some (mLe_some mLe_nil)))) (hk (v3 + (1 : Int32)) _ h hP)
def f_X10_canLandAt (o : Nat) (v1 : Int32) (v2 : Int32) (w : mW) : Option (Int32) := Option.bind (f_X10_canLandAt_L2 o v1 v2 w mFuel (0 : Int32)) fun e5 => match e5 with | .inl y7 => some y7 | .inr y6 => some ((0 : Int32))
set_option maxRecDepth 100000 in
set_option maxHeartbeats 4000000 in
theorem met_X10_canLandAt (o : Nat) (v1 : Int32) (v2 : Int32) (w : mW) (res : Int32) (h : f_X10_canLandAt o v1 v2 w = some res) : mMet M_X10_canLandAt 2 [vr ((some o)), vi v1, vi v2] w (some (vi res)) w := by
  refine ev_met (n := 1) (by decide) rfl fun X => ?_
  unfold f_X10_canLandAt at h
  show mEv X M_X10_canLandAt 2 _ _ 0 [some (vr ((some o))), some (vi v1), some (vi v2), none] [] w
  refine ev_iconst (q := 1) (v := (0 : Int32)) dX10_canLandAt_0 rfl (by decide) ?_
  refine ev_istore_n (q := 2) dX10_canLandAt_1 rfl (by decide) ?_
  replace h := Option.bind_eq_some_iff.mp h; obtain ⟨e5, he5, h⟩ := h
  refine ev_weak _ (mLe_some (mLe_some (mLe_some (mLe_some mLe_nil)))) (e_X10_canLandAt_L2 (fun z => e5 = z) o v1 v2 w (fun y7 hq => ?_) (fun y6 hq => ?_) mFuel (0 : Int32) _ he5 rfl)
  · subst hq
    dsimp only at h
    cases h
    exact ⟨rfl, rfl⟩
  · subst hq
    dsimp only at h
    refine ev_iconst (q := 34) (v := (0 : Int32)) dX10_canLandAt_33 rfl (by decide) ?_
    cases h
    exact ev_zret dX10_canLandAt_34 rfl (Or.inl rfl)
def f_X10_isToss_J21 (s0 : Int32) (w : mW) : Option (Int32) := if s0 = 0 ∨ s0 = 1 then some (s0) else none
set_option maxRecDepth 100000 in
set_option maxHeartbeats 4000000 in
theorem e_X10_isToss_J21 {X : mXs} (s0 : Int32) (w : mW) (res : Int32) (h : f_X10_isToss_J21 s0 w = some res) : mEv X M_X10_isToss 2 (some (vi res)) w 21 [none, none, none] [vi s0] w := by
  unfold f_X10_isToss_J21 at h
  by_cases hz : s0 = 0 ∨ s0 = 1
  · rw [if_pos hz] at h
    cases h
    exact ev_zret dX10_isToss_21 rfl hz
  · rw [if_neg hz] at h
    cases h
def f_X10_isToss_J20 (w : mW) : Option (Int32) := f_X10_isToss_J21 (0 : Int32) w
set_option maxRecDepth 100000 in
set_option maxHeartbeats 4000000 in
theorem e_X10_isToss_J20 {X : mXs} (w : mW) (res : Int32) (h : f_X10_isToss_J20 w = some res) : mEv X M_X10_isToss 2 (some (vi res)) w 20 [none, none, none] [] w := by
  unfold f_X10_isToss_J20 at h
  refine ev_iconst (q := 21) (v := (0 : Int32)) dX10_isToss_20 rfl (by decide) ?_
  exact ev_weak _ (mLe_none (mLe_none (mLe_none mLe_nil))) (e_X10_isToss_J21 (0 : Int32) w _ h)
def f_X10_isToss (o : Nat) (v1 : Int32) (v2 : Int32) (w : mW) : Option (Int32) := Option.bind (kO w (some o) 10) fun _ => Option.bind (f_X10_tosserAt o v1 w) fun r1 => oC r1 (f_X10_isToss_J20 w) (fun a3 => Option.bind (kO w (some o) 10) fun _ => Option.bind (f_X10_isCell o v2 w) fun r4 => if r4 = 0 then (f_X10_isToss_J20 w) else (f_X10_isToss_J21 (1 : Int32) w))
set_option maxRecDepth 100000 in
set_option maxHeartbeats 4000000 in
theorem met_X10_isToss (o : Nat) (v1 : Int32) (v2 : Int32) (w : mW) (res : Int32) (h : f_X10_isToss o v1 v2 w = some res) : mMet M_X10_isToss 2 [vr ((some o)), vi v1, vi v2] w (some (vi res)) w := by
  refine ev_met (n := 0) (by decide) rfl fun X => ?_
  unfold f_X10_isToss at h
  show mEv X M_X10_isToss 2 _ _ 0 [some (vr ((some o))), some (vi v1), some (vi v2)] [] w
  refine ev_aload_n (q := 1) dX10_isToss_0 rfl rfl ?_
  refine ev_iload_n (q := 2) dX10_isToss_1 rfl rfl ?_
  replace h := Option.bind_eq_some_iff.mp h; obtain ⟨q2, hq2, h⟩ := h
  obtain ⟨hxq2, fsq2, hkq2⟩ := kO_spec hq2
  cases hxq2
  replace h := Option.bind_eq_some_iff.mp h; obtain ⟨r1, hr1, h⟩ := h
  refine ev_invV (M1 := M_X10_tosserAt) (as := [vi v1]) (fs := fsq2) (ci := 10) dX10_isToss_2 rfl tw_461 cal_X10_tosserAt tw_463 tw_12 (by decide) rfl rfl (Nat.le_of_ble_eq_true rfl) hkq2 rfl (met_X10_tosserAt o v1 w _ hr1) ?_
  rcases r1 with _ | a3
  · dsimp only [oC] at h
    refine ev_ifnull_t (q := 20) dX10_isToss_5 (by decide) ?_
    exact ev_weak _ (mLe_none (mLe_none (mLe_none mLe_nil))) (e_X10_isToss_J20 w _ h)
  · dsimp only [oC] at h
    refine ev_ifnull_f (q := 8) dX10_isToss_5 rfl ?_
    refine ev_aload_n (q := 9) dX10_isToss_8 rfl rfl ?_
    refine ev_iload_n (q := 10) dX10_isToss_9 rfl rfl ?_
    replace h := Option.bind_eq_some_iff.mp h; obtain ⟨q5, hq5, h⟩ := h
    obtain ⟨hxq5, fsq5, hkq5⟩ := kO_spec hq5
    cases hxq5
    replace h := Option.bind_eq_some_iff.mp h; obtain ⟨r4, hr4, h⟩ := h
    refine ev_invV (M1 := M_X10_isCell) (as := [vi v2]) (fs := fsq5) (ci := 10) dX10_isToss_10 rfl tw_596 cal_X10_isCell tw_598 tw_21 (by decide) rfl rfl (Nat.le_of_ble_eq_true rfl) hkq5 rfl (met_X10_isCell o v2 w _ hr4) ?_
    by_cases hc : r4 = 0
    · rw [if_pos hc] at h
      refine ev_if_eq_t (q := 20) dX10_isToss_13 (by decide) hc ?_
      exact ev_weak _ (mLe_none (mLe_none (mLe_none mLe_nil))) (e_X10_isToss_J20 w _ h)
    · rw [if_neg hc] at h
      refine ev_if_eq_f (q := 16) (t0 := 20) dX10_isToss_13 (by decide) rfl hc ?_
      refine ev_iconst (q := 17) (v := (1 : Int32)) dX10_isToss_16 rfl (by decide) ?_
      refine ev_goto (q := 21) dX10_isToss_17 (by decide) ?_
      exact ev_weak _ (mLe_none (mLe_none (mLe_none mLe_nil))) (e_X10_isToss_J21 (1 : Int32) w _ h)
def f_X10_letter_J11 (w : mW) : Option (Int32 × mW) := some (((-102 : Int32), w))
set_option maxRecDepth 100000 in
set_option maxHeartbeats 4000000 in
theorem e_X10_letter_J11 {X : mXs} (w : mW) (res : Int32 × mW) (h : f_X10_letter_J11 w = some res) : mEv X M_X10_letter 2 (some (vi res.1)) res.2 11 [none, none] [] w := by
  unfold f_X10_letter_J11 at h
  refine ev_bipush (q := 13) (v := (-102 : Int32)) dX10_letter_11 rfl (by decide) ?_
  cases h
  exact ev_iret dX10_letter_13 rfl rfl
def f_X10_letter (o : Nat) (v1 : Int32) (w : mW) : Option (Int32 × mW) := if v1 < (1 : Int32) then (f_X10_letter_J11 w) else (if v1 ≤ (126 : Int32) then (Option.bind (gR w (some o) 10 0) fun r1 => Option.bind (gI w r1 3 1) fun r2 => if r2 < (36 : Int32) then (Option.bind (gR w (some o) 10 0) fun r3 => Option.bind (kO w r3 3) fun q5 => Option.bind (f_X3_append q5 v1 w) fun w4 => Option.bind (gR w4 (some o) 10 0) fun r6 => Option.bind (gI w4 r6 3 1) fun r7 => some ((r7, w4))) else (some (((-104 : Int32), w)))) else (f_X10_letter_J11 w))
set_option maxRecDepth 100000 in
set_option maxHeartbeats 4000000 in
theorem met_X10_letter (o : Nat) (v1 : Int32) (w : mW) (res : Int32 × mW) (h : f_X10_letter o v1 w = some res) : mMet M_X10_letter 2 [vr ((some o)), vi v1] w (some (vi res.1)) res.2 := by
  refine ev_met (n := 0) (by decide) rfl fun X => ?_
  unfold f_X10_letter at h
  show mEv X M_X10_letter 2 _ _ 0 [some (vr ((some o))), some (vi v1)] [] w
  refine ev_iload_n (q := 1) dX10_letter_0 rfl rfl ?_
  refine ev_iconst (q := 2) (v := (1 : Int32)) dX10_letter_1 rfl (by decide) ?_
  by_cases hc : v1 < (1 : Int32)
  · rw [if_pos hc] at h
    refine ev_icmp_lt_t (q := 11) dX10_letter_2 (by decide) hc ?_
    exact ev_weak _ (mLe_none (mLe_none mLe_nil)) (e_X10_letter_J11 w _ h)
  · rw [if_neg hc] at h
    refine ev_icmp_lt_f (q := 5) (t0 := 11) dX10_letter_2 (by decide) rfl hc ?_
    refine ev_iload_n (q := 6) dX10_letter_5 rfl rfl ?_
    refine ev_bipush (q := 8) (v := (126 : Int32)) dX10_letter_6 rfl (by decide) ?_
    by_cases hc : v1 ≤ (126 : Int32)
    · rw [if_pos hc] at h
      refine ev_icmp_le_t (q := 14) dX10_letter_8 (by decide) hc ?_
      refine ev_aload_n (q := 15) dX10_letter_14 rfl rfl ?_
      replace h := Option.bind_eq_some_iff.mp h; obtain ⟨r1, hr1, h⟩ := h
      refine ev_gR dX10_letter_15 fl_X10_10 hr1 rfl ?_
      replace h := Option.bind_eq_some_iff.mp h; obtain ⟨r2, hr2, h⟩ := h
      refine ev_gI dX10_letter_18 fl_X10_50 hr2 rfl ?_
      refine ev_bipush (q := 23) (v := (36 : Int32)) dX10_letter_21 rfl (by decide) ?_
      by_cases hc : r2 < (36 : Int32)
      · rw [if_pos hc] at h
        refine ev_icmp_lt_t (q := 29) dX10_letter_23 (by decide) hc ?_
        refine ev_aload_n (q := 30) dX10_letter_29 rfl rfl ?_
        replace h := Option.bind_eq_some_iff.mp h; obtain ⟨r3, hr3, h⟩ := h
        refine ev_gR dX10_letter_30 fl_X10_10 hr3 rfl ?_
        refine ev_iload_n (q := 34) dX10_letter_33 rfl rfl ?_
        replace h := Option.bind_eq_some_iff.mp h; obtain ⟨q5, hq5, h⟩ := h
        obtain ⟨hxq5, fsq5, hkq5⟩ := kO_spec hq5
        subst hxq5
        replace h := Option.bind_eq_some_iff.mp h; obtain ⟨w4, hw4, h⟩ := h
        refine ev_invV (M1 := M_X3_append) (as := [vi v1]) (fs := fsq5) (ci := 3) dX10_letter_34 rfl tw_672 cal_X3_append tw_673 tw_674 (by decide) rfl rfl (Nat.le_of_ble_eq_true rfl) hkq5 rfl (met_X3_append q5 v1 w _ hw4) ?_
        refine ev_aload_n (q := 38) dX10_letter_37 rfl rfl ?_
        replace h := Option.bind_eq_some_iff.mp h; obtain ⟨r6, hr6, h⟩ := h
        refine ev_gR dX10_letter_38 fl_X10_10 hr6 rfl ?_
        replace h := Option.bind_eq_some_iff.mp h; obtain ⟨r7, hr7, h⟩ := h
        refine ev_gI dX10_letter_41 fl_X10_50 hr7 rfl ?_
        cases h
        exact ev_iret dX10_letter_44 rfl rfl
      · rw [if_neg hc] at h
        refine ev_icmp_lt_f (q := 26) (t0 := 29) dX10_letter_23 (by decide) rfl hc ?_
        refine ev_bipush (q := 28) (v := (-104 : Int32)) dX10_letter_26 rfl (by decide) ?_
        cases h
        exact ev_iret dX10_letter_28 rfl rfl
    · rw [if_neg hc] at h
      refine ev_icmp_le_f (q := 11) (t0 := 14) dX10_letter_8 (by decide) rfl hc ?_
      exact ev_weak _ (mLe_none (mLe_none mLe_nil)) (e_X10_letter_J11 w _ h)
def f_X10_morning (o : Nat) (w : mW) : Option (Int32 × mW) := Option.bind (kO w (some o) 10) fun _ => Option.bind (f_X10_hasPort o  w) fun r1 => if r1 = 0 then (some (((-103 : Int32), w))) else (Option.bind (gR w (some o) 10 3) fun r3 => Option.bind (gI w r3 2 10) fun r4 => if r4 < (999 : Int32) then (Option.bind (gR w (some o) 10 3) fun r5 => Option.bind (gI w r5 2 7) fun r6 => Option.bind (f_J6_bitCount_0f7a4 r6 w) fun r7 => Option.bind (gR w (some o) 10 3) fun r8 => Option.bind (gI w (some o) 10 7) fun r9 => Option.bind (kO w r8 2) fun q11 => Option.bind (f_X2_wake q11 r9 w) fun w10 => some ((r7, w10))) else (some (((-104 : Int32), w))))
set_option maxRecDepth 100000 in
set_option maxHeartbeats 4000000 in
theorem met_X10_morning (o : Nat) (w : mW) (res : Int32 × mW) (h : f_X10_morning o w = some res) : mMet M_X10_morning 2 [vr ((some o))] w (some (vi res.1)) res.2 := by
  refine ev_met (n := 1) (by decide) rfl fun X => ?_
  unfold f_X10_morning at h
  show mEv X M_X10_morning 2 _ _ 0 [some (vr ((some o))), none] [] w
  refine ev_aload_n (q := 1) dX10_morning_0 rfl rfl ?_
  replace h := Option.bind_eq_some_iff.mp h; obtain ⟨q2, hq2, h⟩ := h
  obtain ⟨hxq2, fsq2, hkq2⟩ := kO_spec hq2
  cases hxq2
  replace h := Option.bind_eq_some_iff.mp h; obtain ⟨r1, hr1, h⟩ := h
  refine ev_invV (M1 := M_X10_hasPort) (as := []) (fs := fsq2) (ci := 10) dX10_morning_1 rfl tw_600 cal_X10_hasPort tw_602 tw_22 (by decide) rfl rfl (Nat.le_of_ble_eq_true rfl) hkq2 rfl (met_X10_hasPort o  w _ hr1) ?_
  by_cases hc : r1 = 0
  · rw [if_pos hc] at h
    refine ev_if_ne_f (q := 7) (t0 := 10) dX10_morning_4 (by decide) rfl hc ?_
    refine ev_bipush (q := 9) (v := (-103 : Int32)) dX10_morning_7 rfl (by decide) ?_
    cases h
    exact ev_iret dX10_morning_9 rfl rfl
  · rw [if_neg hc] at h
    refine ev_if_ne_t (q := 10) dX10_morning_4 (by decide) hc ?_
    refine ev_aload_n (q := 11) dX10_morning_10 rfl rfl ?_
    replace h := Option.bind_eq_some_iff.mp h; obtain ⟨r3, hr3, h⟩ := h
    refine ev_gR dX10_morning_11 fl_X10_32 hr3 rfl ?_
    replace h := Option.bind_eq_some_iff.mp h; obtain ⟨r4, hr4, h⟩ := h
    refine ev_gI dX10_morning_14 fl_X10_176 hr4 rfl ?_
    refine ev_sipush (q := 20) (v := (999 : Int32)) dX10_morning_17 rfl (by decide) ?_
    by_cases hc : r4 < (999 : Int32)
    · rw [if_pos hc] at h
      refine ev_icmp_lt_t (q := 26) dX10_morning_20 (by decide) hc ?_
      refine ev_aload_n (q := 27) dX10_morning_26 rfl rfl ?_
      replace h := Option.bind_eq_some_iff.mp h; obtain ⟨r5, hr5, h⟩ := h
      refine ev_gR dX10_morning_27 fl_X10_32 hr5 rfl ?_
      replace h := Option.bind_eq_some_iff.mp h; obtain ⟨r6, hr6, h⟩ := h
      refine ev_gI dX10_morning_30 fl_X10_86 hr6 rfl ?_
      replace h := Option.bind_eq_some_iff.mp h; obtain ⟨r7, hr7, h⟩ := h
      refine ev_invS (M1 := M_J6_bitCount_0f7a4) (as := [vi r6]) dX10_morning_33 rfl tw_552 cal_J6_bitCount_0f7a4 tw_553 (by decide) rfl rfl (Nat.le_of_ble_eq_true rfl) (met_J6_bitCount_0f7a4 r6 w _ hr7) ?_
      refine ev_istore_n (q := 37) dX10_morning_36 rfl (by decide) ?_
      refine ev_aload_n (q := 38) dX10_morning_37 rfl rfl ?_
      replace h := Option.bind_eq_some_iff.mp h; obtain ⟨r8, hr8, h⟩ := h
      refine ev_gR dX10_morning_38 fl_X10_32 hr8 rfl ?_
      refine ev_aload_n (q := 42) dX10_morning_41 rfl rfl ?_
      replace h := Option.bind_eq_some_iff.mp h; obtain ⟨r9, hr9, h⟩ := h
      refine ev_gI dX10_morning_42 fl_X10_72 hr9 rfl ?_
      replace h := Option.bind_eq_some_iff.mp h; obtain ⟨q11, hq11, h⟩ := h
      obtain ⟨hxq11, fsq11, hkq11⟩ := kO_spec hq11
      subst hxq11
      replace h := Option.bind_eq_some_iff.mp h; obtain ⟨w10, hw10, h⟩ := h
      refine ev_invV (M1 := M_X2_wake) (as := [vi r9]) (fs := fsq11) (ci := 2) dX10_morning_45 rfl tw_715 cal_X2_wake tw_716 tw_717 (by decide) rfl rfl (Nat.le_of_ble_eq_true rfl) hkq11 rfl (met_X2_wake q11 r9 w _ hw10) ?_
      refine ev_iload_n (q := 49) dX10_morning_48 rfl rfl ?_
      cases h
      exact ev_iret dX10_morning_49 rfl rfl
    · rw [if_neg hc] at h
      refine ev_icmp_lt_f (q := 23) (t0 := 26) dX10_morning_20 (by decide) rfl hc ?_
      refine ev_bipush (q := 25) (v := (-104 : Int32)) dX10_morning_23 rfl (by decide) ?_
      cases h
      exact ev_iret dX10_morning_25 rfl rfl
def f_X10_mostLeft_J45 (kc : Int32 → Int32 → Option (Int32)) (v0 : Int32) (v1 : Int32) (v2 : Int32) (v3 : Int32) (v4 : Int32) (v5 : Int32) (w : mW) : Option (Int32) := kc v4 (v5 + (1 : Int32))
set_option maxRecDepth 100000 in
set_option maxHeartbeats 4000000 in
theorem e_X10_mostLeft_J45 {X : mXs} {r : Option mV} {w' : mW} (P : (Int32) → Prop) (v0 : Int32) (v1 : Int32) (v2 : Int32) (v3 : Int32) (v4 : Int32) (v5 : Int32) (w : mW) (kc : Int32 → Int32 → Option (Int32)) (hk : ∀ (u4 : Int32) (u5 : Int32) (e : Int32), kc u4 u5 = some e → P e → mEv X M_X10_mostLeft 2 r w' 16 [some (vi v0), some (vi v1), some (vi v2), some (vi v3), some (vi u4), some (vi u5)] [] w) (e : Int32) (h : f_X10_mostLeft_J45 kc v0 v1 v2 v3 v4 v5 w = some e) (hP : P e) : mEv X M_X10_mostLeft 2 r w' 45 [some (vi v0), some (vi v1), some (vi v2), some (vi v3), some (vi v4), some (vi v5)] [] w := by
  unfold f_X10_mostLeft_J45 at h
  refine ev_iinc (q := 48) (v := v5 + (1 : Int32)) dX10_mostLeft_45 rfl (by decide) rfl (by rfl) ?_
  refine ev_goto (q := 16) dX10_mostLeft_48 (by decide) ?_
  exact ev_weak _ (mLe_some (mLe_some (mLe_some (mLe_some (mLe_some (mLe_some mLe_nil)))))) (hk v4 (v5 + (1 : Int32)) _ h hP)
def f_X10_mostLeft_L16 (v0 : Int32) (v1 : Int32) (v2 : Int32) (v3 : Int32) (w : mW) : Nat → Int32 → Int32 → Option (Int32)
  | 0, _, _ => none
  | n + 1, v4, v5 => if (5 : Int32) ≤ v5 then (some (v4)) else (if (v0 >>> (v5 &&& 31)) &&& (1 : Int32) = (1 : Int32) then (Option.bind (f_X10_columnBy v1 v5 w) fun r1 => if r1 = v3 then (f_X10_mostLeft_J45 (f_X10_mostLeft_L16 v0 v1 v2 v3 w n) v0 v1 v2 v3 (v4 + (1 : Int32)) v5 w) else (f_X10_mostLeft_J45 (f_X10_mostLeft_L16 v0 v1 v2 v3 w n) v0 v1 v2 v3 v4 v5 w)) else (f_X10_mostLeft_J45 (f_X10_mostLeft_L16 v0 v1 v2 v3 w n) v0 v1 v2 v3 v4 v5 w))
set_option maxRecDepth 100000 in
set_option maxHeartbeats 4000000 in
theorem e_X10_mostLeft_L16 {X : mXs} {r : Option mV} {w' : mW} (P : (Int32) → Prop) (v0 : Int32) (v1 : Int32) (v2 : Int32) (v3 : Int32) (w : mW) (hexit : ∀ y, P y → mEv X M_X10_mostLeft 2 r w' 51 [some (vi v0), some (vi v1), some (vi v2), some (vi v3), some (vi y), none] [] w) : ∀ (n : Nat) (v4 : Int32) (v5 : Int32) (e : Int32), f_X10_mostLeft_L16 v0 v1 v2 v3 w n v4 v5 = some e → P e → mEv X M_X10_mostLeft 2 r w' 16 [some (vi v0), some (vi v1), some (vi v2), some (vi v3), some (vi v4), some (vi v5)] [] w := by
  intro n
  induction n with
  | zero =>
    intro v4 v5 e h hP
    rw [f_X10_mostLeft_L16] at h
    cases h
  | succ n hk =>
    intro v4 v5 e h hP
    rw [f_X10_mostLeft_L16] at h
    refine ev_iload (q := 18) dX10_mostLeft_16 rfl rfl ?_
    refine ev_iconst (q := 19) (v := (5 : Int32)) dX10_mostLeft_18 rfl (by decide) ?_
    by_cases hc : (5 : Int32) ≤ v5
    · rw [if_pos hc] at h
      refine ev_icmp_ge_t (q := 51) dX10_mostLeft_19 (by decide) hc ?_
      cases h
      exact ev_weak _ (mLe_some (mLe_some (mLe_some (mLe_some (mLe_some (mLe_none mLe_nil)))))) (hexit _ hP)
    · rw [if_neg hc] at h
      refine ev_icmp_ge_f (q := 22) (t0 := 51) dX10_mostLeft_19 (by decide) rfl hc ?_
      refine ev_iload_n (q := 23) dX10_mostLeft_22 rfl rfl ?_
      refine ev_iload (q := 25) dX10_mostLeft_23 rfl rfl ?_
      refine ev_ishr (q := 26) dX10_mostLeft_25 rfl ?_
      refine ev_iconst (q := 27) (v := (1 : Int32)) dX10_mostLeft_26 rfl (by decide) ?_
      refine ev_iand (q := 28) dX10_mostLeft_27 rfl ?_
      refine ev_iconst (q := 29) (v := (1 : Int32)) dX10_mostLeft_28 rfl (by decide) ?_
      by_cases hc : (v0 >>> (v5 &&& 31)) &&& (1 : Int32) = (1 : Int32)
      · rw [if_pos hc] at h
        refine ev_icmp_ne_f (q := 32) (t0 := 45) dX10_mostLeft_29 (by decide) rfl hc ?_
        refine ev_iload_n (q := 33) dX10_mostLeft_32 rfl rfl ?_
        refine ev_iload (q := 35) dX10_mostLeft_33 rfl rfl ?_
        replace h := Option.bind_eq_some_iff.mp h; obtain ⟨r1, hr1, h⟩ := h
        refine ev_invS (M1 := M_X10_columnBy) (as := [vi v1, vi v5]) dX10_mostLeft_35 rfl tw_579 cal_X10_columnBy tw_568 (by decide) rfl rfl (Nat.le_of_ble_eq_true rfl) (met_X10_columnBy v1 v5 w _ hr1) ?_
        refine ev_iload_n (q := 39) dX10_mostLeft_38 rfl rfl ?_
        by_cases hc : r1 = v3
        · rw [if_pos hc] at h
          refine ev_icmp_ne_f (q := 42) (t0 := 45) dX10_mostLeft_39 (by decide) rfl hc ?_
          refine ev_iinc (q := 45) (v := v4 + (1 : Int32)) dX10_mostLeft_42 rfl (by decide) rfl (by rfl) ?_
          exact ev_weak _ (mLe_some (mLe_some (mLe_some (mLe_some (mLe_some (mLe_some mLe_nil)))))) (e_X10_mostLeft_J45 P v0 v1 v2 v3 (v4 + (1 : Int32)) v5 w _ hk  _ h hP)
        · rw [if_neg hc] at h
          refine ev_icmp_ne_t (q := 45) dX10_mostLeft_39 (by decide) hc ?_
          exact ev_weak _ (mLe_some (mLe_some (mLe_some (mLe_some (mLe_some (mLe_some mLe_nil)))))) (e_X10_mostLeft_J45 P v0 v1 v2 v3 v4 v5 w _ hk  _ h hP)
      · rw [if_neg hc] at h
        refine ev_icmp_ne_t (q := 45) dX10_mostLeft_29 (by decide) hc ?_
        exact ev_weak _ (mLe_some (mLe_some (mLe_some (mLe_some (mLe_some (mLe_some mLe_nil)))))) (e_X10_mostLeft_J45 P v0 v1 v2 v3 v4 v5 w _ hk  _ h hP)
def f_X10_mostLeft_L4 (v0 : Int32) (v1 : Int32) (w : mW) : Nat → Int32 → Int32 → Option (Int32)
  | 0, _, _ => none
  | n + 1, v2, v3 => if (6 : Int32) ≤ v3 then (some (v2)) else (Option.bind (f_X10_mostLeft_L16 v0 v1 v2 v3 w mFuel (0 : Int32) (0 : Int32)) fun e2 => (f_X10_mostLeft_L4 v0 v1 w n) (if v2 < e2 then e2 else v2) (v3 + (1 : Int32)))
set_option maxRecDepth 100000 in
set_option maxHeartbeats 4000000 in
theorem e_X10_mostLeft_L4 {X : mXs} {r : Option mV} {w' : mW} (P : (Int32) → Prop) (v0 : Int32) (v1 : Int32) (w : mW) (hexit : ∀ y, P y → mEv X M_X10_mostLeft 2 r w' 64 [none, none, some (vi y), none, none, none] [] w) : ∀ (n : Nat) (v2 : Int32) (v3 : Int32) (e : Int32), f_X10_mostLeft_L4 v0 v1 w n v2 v3 = some e → P e → mEv X M_X10_mostLeft 2 r w' 4 [some (vi v0), some (vi v1), some (vi v2), some (vi v3), none, none] [] w := by
  intro n
  induction n with
  | zero =>
    intro v2 v3 e h hP
    rw [f_X10_mostLeft_L4] at h
    cases h
  | succ n hk =>
    intro v2 v3 e h hP
    rw [f_X10_mostLeft_L4] at h
    refine ev_iload_n (q := 5) dX10_mostLeft_4 rfl rfl ?_
    refine ev_bipush (q := 7) (v := (6 : Int32)) dX10_mostLeft_5 rfl (by decide) ?_
    by_cases hc : (6 : Int32) ≤ v3
    · rw [if_pos hc] at h
      refine ev_icmp_ge_t (q := 64) dX10_mostLeft_7 (by decide) hc ?_
      cases h
      exact ev_weak _ (mLe_none (mLe_none (mLe_some (mLe_none (mLe_none (mLe_none mLe_nil)))))) (hexit _ hP)
    · rw [if_neg hc] at h
      refine ev_icmp_ge_f (q := 10) (t0 := 64) dX10_mostLeft_7 (by decide) rfl hc ?_
      refine ev_iconst (q := 11) (v := (0 : Int32)) dX10_mostLeft_10 rfl (by decide) ?_
      refine ev_istore (q := 13) dX10_mostLeft_11 rfl (by decide) ?_
      refine ev_iconst (q := 14) (v := (0 : Int32)) dX10_mostLeft_13 rfl (by decide) ?_
      refine ev_istore (q := 16) dX10_mostLeft_14 rfl (by decide) ?_
      replace h := Option.bind_eq_some_iff.mp h; obtain ⟨e2, he2, h⟩ := h
      refine ev_weak _ (mLe_some (mLe_some (mLe_some (mLe_some (mLe_some (mLe_some mLe_nil)))))) (e_X10_mostLeft_L16 (fun z => e2 = z) v0 v1 v2 v3 w (fun e2q hq => ?_) mFuel (0 : Int32) (0 : Int32) _ he2 rfl)
      subst hq
      refine ev_iload_n (q := 52) dX10_mostLeft_51 rfl rfl ?_
      refine ev_iload (q := 54) dX10_mostLeft_52 rfl rfl ?_
      refine ev_mmax (q := 57) dX10_mostLeft_54 rfl tw_580 tw_310 tw_mathi tw_311 (by decide) (Nat.le_of_ble_eq_true rfl) ?_
      refine ev_istore_n (q := 58) dX10_mostLeft_57 rfl (by decide) ?_
      refine ev_iinc (q := 61) (v := v3 + (1 : Int32)) dX10_mostLeft_58 rfl (by decide) rfl (by rfl) ?_
      refine ev_goto (q := 4) dX10_mostLeft_61 (by decide) ?_
      exact ev_weak _ (mLe_some (mLe_some (mLe_some (mLe_some (mLe_none (mLe_none mLe_nil)))))) (hk (if v2 < e2 then e2 else v2) (v3 + (1 : Int32)) _ h hP)
def f_X10_mostLeft (v0 : Int32) (v1 : Int32) (w : mW) : Option (Int32) := Option.bind (f_X10_mostLeft_L4 v0 v1 w mFuel (0 : Int32) (-1 : Int32)) fun e3 => some (e3)
set_option maxRecDepth 100000 in
set_option maxHeartbeats 4000000 in
theorem met_X10_mostLeft (v0 : Int32) (v1 : Int32) (w : mW) (res : Int32) (h : f_X10_mostLeft v0 v1 w = some res) : mMet M_X10_mostLeft 2 [vi v0, vi v1] w (some (vi res)) w := by
  refine ev_met (n := 4) (by decide) rfl fun X => ?_
  unfold f_X10_mostLeft at h
  show mEv X M_X10_mostLeft 2 _ _ 0 [some (vi v0), some (vi v1), none, none, none, none] [] w
  refine ev_iconst (q := 1) (v := (0 : Int32)) dX10_mostLeft_0 rfl (by decide) ?_
  refine ev_istore_n (q := 2) dX10_mostLeft_1 rfl (by decide) ?_
  refine ev_iconst (q := 3) (v := (-1 : Int32)) dX10_mostLeft_2 rfl (by decide) ?_
  refine ev_istore_n (q := 4) dX10_mostLeft_3 rfl (by decide) ?_
  replace h := Option.bind_eq_some_iff.mp h; obtain ⟨e3, he3, h⟩ := h
  refine ev_weak _ (mLe_some (mLe_some (mLe_some (mLe_some (mLe_none (mLe_none mLe_nil)))))) (e_X10_mostLeft_L4 (fun z => e3 = z) v0 v1 w (fun e3q hq => ?_) mFuel (0 : Int32) (-1 : Int32) _ he3 rfl)
  subst hq
  refine ev_iload_n (q := 65) dX10_mostLeft_64 rfl rfl ?_
  cases h
  exact ev_iret dX10_mostLeft_65 rfl rfl
def f_X10_move_J16 (w : mW) : Option (Int32 × mW) := some (((-101 : Int32), w))
set_option maxRecDepth 100000 in
set_option maxHeartbeats 4000000 in
theorem e_X10_move_J16 {X : mXs} (w : mW) (res : Int32 × mW) (h : f_X10_move_J16 w = some res) : mEv X M_X10_move 2 (some (vi res.1)) res.2 16 [none, none, none, none] [] w := by
  unfold f_X10_move_J16 at h
  refine ev_bipush (q := 18) (v := (-101 : Int32)) dX10_move_16 rfl (by decide) ?_
  cases h
  exact ev_iret dX10_move_18 rfl rfl
def f_X10_move (o : Nat) (v1 : Int32) (v2 : Int32) (w : mW) : Option (Int32 × mW) := Option.bind (kO w (some o) 10) fun _ => Option.bind (f_X10_isSleeper o v1 w) fun r1 => if r1 = 0 then (f_X10_move_J16 w) else (Option.bind (kO w (some o) 10) fun _ => Option.bind (f_X10_isCell o v2 w) fun r3 => if r3 = 0 then (f_X10_move_J16 w) else (Option.bind (kO w (some o) 10) fun _ => Option.bind (f_X10_isTakenByAnother o v2 v1 w) fun r5 => if r5 = 0 then (Option.bind (gR w (some o) 10 3) fun r7 => Option.bind (gR w r7 2 0) fun r8 => Option.bind (f_X10_at r8 v1 w) fun r9 => Option.bind (gR w (some o) 10 3) fun r10 => Option.bind (gR w r10 2 0) fun r11 => Option.bind (f_X10_put r11 v1 v2 w) fun w12 => Option.bind (gR w12 (some o) 10 3) fun r13 => Option.bind (gI w12 r13 2 7) fun r14 => Option.bind (pI w12 r13 2 7 (r14 &&& (((1 : Int32) <<< (v1 &&& 31)) ^^^ (-1 : Int32)))) fun w15 => some ((r9, w15))) else (some (((-103 : Int32), w)))))
set_option maxRecDepth 100000 in
set_option maxHeartbeats 4000000 in
theorem met_X10_move (o : Nat) (v1 : Int32) (v2 : Int32) (w : mW) (res : Int32 × mW) (h : f_X10_move o v1 v2 w = some res) : mMet M_X10_move 2 [vr ((some o)), vi v1, vi v2] w (some (vi res.1)) res.2 := by
  refine ev_met (n := 1) (by decide) rfl fun X => ?_
  unfold f_X10_move at h
  show mEv X M_X10_move 2 _ _ 0 [some (vr ((some o))), some (vi v1), some (vi v2), none] [] w
  refine ev_aload_n (q := 1) dX10_move_0 rfl rfl ?_
  refine ev_iload_n (q := 2) dX10_move_1 rfl rfl ?_
  replace h := Option.bind_eq_some_iff.mp h; obtain ⟨q2, hq2, h⟩ := h
  obtain ⟨hxq2, fsq2, hkq2⟩ := kO_spec hq2
  cases hxq2
  replace h := Option.bind_eq_some_iff.mp h; obtain ⟨r1, hr1, h⟩ := h
  refine ev_invV (M1 := M_X10_isSleeper) (as := [vi v1]) (fs := fsq2) (ci := 10) dX10_move_2 rfl tw_448 cal_X10_isSleeper tw_450 tw_9 (by decide) rfl rfl (Nat.le_of_ble_eq_true rfl) hkq2 rfl (met_X10_isSleeper o v1 w _ hr1) ?_
  by_cases hc : r1 = 0
  · rw [if_pos hc] at h
    refine ev_if_eq_t (q := 16) dX10_move_5 (by decide) hc ?_
    exact ev_weak _ (mLe_none (mLe_none (mLe_none (mLe_none mLe_nil)))) (e_X10_move_J16 w _ h)
  · rw [if_neg hc] at h
    refine ev_if_eq_f (q := 8) (t0 := 16) dX10_move_5 (by decide) rfl hc ?_
    refine ev_aload_n (q := 9) dX10_move_8 rfl rfl ?_
    refine ev_iload_n (q := 10) dX10_move_9 rfl rfl ?_
    replace h := Option.bind_eq_some_iff.mp h; obtain ⟨q4, hq4, h⟩ := h
    obtain ⟨hxq4, fsq4, hkq4⟩ := kO_spec hq4
    cases hxq4
    replace h := Option.bind_eq_some_iff.mp h; obtain ⟨r3, hr3, h⟩ := h
    refine ev_invV (M1 := M_X10_isCell) (as := [vi v2]) (fs := fsq4) (ci := 10) dX10_move_10 rfl tw_596 cal_X10_isCell tw_598 tw_21 (by decide) rfl rfl (Nat.le_of_ble_eq_true rfl) hkq4 rfl (met_X10_isCell o v2 w _ hr3) ?_
    by_cases hc : r3 = 0
    · rw [if_pos hc] at h
      refine ev_if_ne_f (q := 16) (t0 := 19) dX10_move_13 (by decide) rfl hc ?_
      exact ev_weak _ (mLe_none (mLe_none (mLe_none (mLe_none mLe_nil)))) (e_X10_move_J16 w _ h)
    · rw [if_neg hc] at h
      refine ev_if_ne_t (q := 19) dX10_move_13 (by decide) hc ?_
      refine ev_aload_n (q := 20) dX10_move_19 rfl rfl ?_
      refine ev_iload_n (q := 21) dX10_move_20 rfl rfl ?_
      refine ev_iload_n (q := 22) dX10_move_21 rfl rfl ?_
      replace h := Option.bind_eq_some_iff.mp h; obtain ⟨q6, hq6, h⟩ := h
      obtain ⟨hxq6, fsq6, hkq6⟩ := kO_spec hq6
      cases hxq6
      replace h := Option.bind_eq_some_iff.mp h; obtain ⟨r5, hr5, h⟩ := h
      refine ev_invV (M1 := M_X10_isTakenByAnother) (as := [vi v2, vi v1]) (fs := fsq6) (ci := 10) dX10_move_22 rfl tw_498 cal_X10_isTakenByAnother tw_500 tw_15 (by decide) rfl rfl (Nat.le_of_ble_eq_true rfl) hkq6 rfl (met_X10_isTakenByAnother o v2 v1 w _ hr5) ?_
      by_cases hc : r5 = 0
      · rw [if_pos hc] at h
        refine ev_if_eq_t (q := 31) dX10_move_25 (by decide) hc ?_
        refine ev_aload_n (q := 32) dX10_move_31 rfl rfl ?_
        replace h := Option.bind_eq_some_iff.mp h; obtain ⟨r7, hr7, h⟩ := h
        refine ev_gR dX10_move_32 fl_X10_32 hr7 rfl ?_
        replace h := Option.bind_eq_some_iff.mp h; obtain ⟨r8, hr8, h⟩ := h
        refine ev_gR dX10_move_35 fl_X10_79 hr8 rfl ?_
        refine ev_iload_n (q := 39) dX10_move_38 rfl rfl ?_
        replace h := Option.bind_eq_some_iff.mp h; obtain ⟨r9, hr9, h⟩ := h
        refine ev_invS (M1 := M_X10_at) (as := [vr r8, vi v1]) dX10_move_39 rfl tw_406 cal_X10_at tw_252 (by decide) rfl rfl (Nat.le_of_ble_eq_true rfl) (met_X10_at r8 v1 w _ hr9) ?_
        refine ev_istore_n (q := 43) dX10_move_42 rfl (by decide) ?_
        refine ev_aload_n (q := 44) dX10_move_43 rfl rfl ?_
        replace h := Option.bind_eq_some_iff.mp h; obtain ⟨r10, hr10, h⟩ := h
        refine ev_gR dX10_move_44 fl_X10_32 hr10 rfl ?_
        replace h := Option.bind_eq_some_iff.mp h; obtain ⟨r11, hr11, h⟩ := h
        refine ev_gR dX10_move_47 fl_X10_79 hr11 rfl ?_
        refine ev_iload_n (q := 51) dX10_move_50 rfl rfl ?_
        refine ev_iload_n (q := 52) dX10_move_51 rfl rfl ?_
        replace h := Option.bind_eq_some_iff.mp h; obtain ⟨w12, hw12, h⟩ := h
        refine ev_invS (M1 := M_X10_put) (as := [vr r11, vi v1, vi v2]) dX10_move_52 rfl tw_402 cal_X10_put tw_270 (by decide) rfl rfl (Nat.le_of_ble_eq_true rfl) (met_X10_put r11 v1 v2 w _ hw12) ?_
        refine ev_aload_n (q := 56) dX10_move_55 rfl rfl ?_
        replace h := Option.bind_eq_some_iff.mp h; obtain ⟨r13, hr13, h⟩ := h
        refine ev_gR dX10_move_56 fl_X10_32 hr13 rfl ?_
        refine ev_dup (q := 60) dX10_move_59 rfl rfl ?_
        replace h := Option.bind_eq_some_iff.mp h; obtain ⟨r14, hr14, h⟩ := h
        refine ev_gI dX10_move_60 fl_X10_86 hr14 rfl ?_
        refine ev_iconst (q := 64) (v := (1 : Int32)) dX10_move_63 rfl (by decide) ?_
        refine ev_iload_n (q := 65) dX10_move_64 rfl rfl ?_
        refine ev_ishl (q := 66) dX10_move_65 rfl ?_
        refine ev_iconst (q := 67) (v := (-1 : Int32)) dX10_move_66 rfl (by decide) ?_
        refine ev_ixor (q := 68) dX10_move_67 rfl ?_
        refine ev_iand (q := 69) dX10_move_68 rfl ?_
        replace h := Option.bind_eq_some_iff.mp h; obtain ⟨w15, hw15, h⟩ := h
        refine ev_pI dX10_move_69 fp_X10_86 hw15 rfl ?_
        refine ev_iload_n (q := 73) dX10_move_72 rfl rfl ?_
        cases h
        exact ev_iret dX10_move_73 rfl rfl
      · rw [if_neg hc] at h
        refine ev_if_eq_f (q := 28) (t0 := 31) dX10_move_25 (by decide) rfl hc ?_
        refine ev_bipush (q := 30) (v := (-103 : Int32)) dX10_move_28 rfl (by decide) ?_
        cases h
        exact ev_iret dX10_move_30 rfl rfl
def f_X0_init (o : Nat) (w : mW) : Option (Unit) := Option.bind (f_X8_init o  w) fun r1 => some (())
set_option maxRecDepth 100000 in
set_option maxHeartbeats 4000000 in
theorem met_X0_init (o : Nat) (w : mW) (res : Unit) (h : f_X0_init o w = some res) : mMet M_X0_init 2 [vr ((some o))] w none w := by
  refine ev_met (n := 0) (by decide) rfl fun X => ?_
  unfold f_X0_init at h
  show mEv X M_X0_init 2 _ _ 0 [some (vr ((some o)))] [] w
  refine ev_aload_n (q := 1) dX0_init_0 rfl rfl ?_
  replace h := Option.bind_eq_some_iff.mp h; obtain ⟨r1, hr1, h⟩ := h
  refine ev_invIN (M1 := M_X8_init) (as := []) dX0_init_1 rfl tw_415 cal_X8_init tw_416 rfl rfl (by decide) rfl rfl (Nat.le_of_ble_eq_true rfl) (met_X8_init o  w _ hr1) ?_
  cases h
  exact ev_vret dX0_init_4 rfl
def f_X1_spreads_J22 (s0 : Int32) (w : mW) : Option (Int32) := if s0 = 0 ∨ s0 = 1 then some (s0) else none
set_option maxRecDepth 100000 in
set_option maxHeartbeats 4000000 in
theorem e_X1_spreads_J22 {X : mXs} (s0 : Int32) (w : mW) (res : Int32) (h : f_X1_spreads_J22 s0 w = some res) : mEv X M_X1_spreads 2 (some (vi res)) w 22 [none, none, none] [vi s0] w := by
  unfold f_X1_spreads_J22 at h
  by_cases hz : s0 = 0 ∨ s0 = 1
  · rw [if_pos hz] at h
    cases h
    exact ev_zret dX1_spreads_22 rfl hz
  · rw [if_neg hz] at h
    cases h
def f_X1_spreads_J21 (w : mW) : Option (Int32) := f_X1_spreads_J22 (0 : Int32) w
set_option maxRecDepth 100000 in
set_option maxHeartbeats 4000000 in
theorem e_X1_spreads_J21 {X : mXs} (w : mW) (res : Int32) (h : f_X1_spreads_J21 w = some res) : mEv X M_X1_spreads 2 (some (vi res)) w 21 [none, none, none] [] w := by
  unfold f_X1_spreads_J21 at h
  refine ev_iconst (q := 22) (v := (0 : Int32)) dX1_spreads_21 rfl (by decide) ?_
  exact ev_weak _ (mLe_none (mLe_none (mLe_none mLe_nil))) (e_X1_spreads_J22 (0 : Int32) w _ h)
def f_X1_spreads_J17 (w : mW) : Option (Int32) := f_X1_spreads_J22 (1 : Int32) w
set_option maxRecDepth 100000 in
set_option maxHeartbeats 4000000 in
theorem e_X1_spreads_J17 {X : mXs} (w : mW) (res : Int32) (h : f_X1_spreads_J17 w = some res) : mEv X M_X1_spreads 2 (some (vi res)) w 17 [none, none, none] [] w := by
  unfold f_X1_spreads_J17 at h
  refine ev_iconst (q := 18) (v := (1 : Int32)) dX1_spreads_17 rfl (by decide) ?_
  refine ev_goto (q := 22) dX1_spreads_18 (by decide) ?_
  exact ev_weak _ (mLe_none (mLe_none (mLe_none mLe_nil))) (e_X1_spreads_J22 (1 : Int32) w _ h)
def f_X1_spreads (o : Nat) (v1 : Int32) (v2 : Int32) (w : mW) : Option (Int32) := Option.bind (kO w (some o) 1) fun _ => Option.bind (f_X9_spreads o v1 v2 w) fun r1 => if r1 = 0 then (f_X1_spreads_J21 w) else (if v1 = 0 then (if v2 = 0 then (f_X1_spreads_J21 w) else (f_X1_spreads_J17 w)) else (f_X1_spreads_J17 w))
set_option maxRecDepth 100000 in
set_option maxHeartbeats 4000000 in
theorem met_X1_spreads (o : Nat) (v1 : Int32) (v2 : Int32) (w : mW) (res : Int32) (h : f_X1_spreads o v1 v2 w = some res) : mMet M_X1_spreads 2 [vr ((some o)), vi v1, vi v2] w (some (vi res)) w := by
  refine ev_met (n := 0) (by decide) rfl fun X => ?_
  unfold f_X1_spreads at h
  show mEv X M_X1_spreads 2 _ _ 0 [some (vr ((some o))), some (vi v1), some (vi v2)] [] w
  refine ev_aload_n (q := 1) dX1_spreads_0 rfl rfl ?_
  refine ev_iload_n (q := 2) dX1_spreads_1 rfl rfl ?_
  refine ev_iload_n (q := 3) dX1_spreads_2 rfl rfl ?_
  replace h := Option.bind_eq_some_iff.mp h; obtain ⟨q2, hq2, h⟩ := h
  obtain ⟨hxq2, fsq2, hkq2⟩ := kO_spec hq2
  cases hxq2
  replace h := Option.bind_eq_some_iff.mp h; obtain ⟨r1, hr1, h⟩ := h
  refine ev_invSu (M1 := M_X9_spreads) (as := [vi v1, vi v2]) (C1 := RX1) dX1_spreads_3 rfl tw_487 tw_737 tw_440 cal_X9_spreads tw_488 (by decide) (by decide) rfl rfl (Nat.le_of_ble_eq_true rfl) hkq2 rfl (met_X9_spreads o v1 v2 w _ hr1) ?_
  by_cases hc : r1 = 0
  · rw [if_pos hc] at h
    refine ev_if_eq_t (q := 21) dX1_spreads_6 (by decide) hc ?_
    exact ev_weak _ (mLe_none (mLe_none (mLe_none mLe_nil))) (e_X1_spreads_J21 w _ h)
  · rw [if_neg hc] at h
    refine ev_if_eq_f (q := 9) (t0 := 21) dX1_spreads_6 (by decide) rfl hc ?_
    refine ev_iload_n (q := 10) dX1_spreads_9 rfl rfl ?_
    by_cases hc : v1 = 0
    · rw [if_pos hc] at h
      refine ev_if_ne_f (q := 13) (t0 := 17) dX1_spreads_10 (by decide) rfl hc ?_
      refine ev_iload_n (q := 14) dX1_spreads_13 rfl rfl ?_
      by_cases hc : v2 = 0
      · rw [if_pos hc] at h
        refine ev_if_eq_t (q := 21) dX1_spreads_14 (by decide) hc ?_
        exact ev_weak _ (mLe_none (mLe_none (mLe_none mLe_nil))) (e_X1_spreads_J21 w _ h)
      · rw [if_neg hc] at h
        refine ev_if_eq_f (q := 17) (t0 := 21) dX1_spreads_14 (by decide) rfl hc ?_
        exact ev_weak _ (mLe_none (mLe_none (mLe_none mLe_nil))) (e_X1_spreads_J17 w _ h)
    · rw [if_neg hc] at h
      refine ev_if_ne_t (q := 17) dX1_spreads_10 (by decide) hc ?_
      exact ev_weak _ (mLe_none (mLe_none (mLe_none mLe_nil))) (e_X1_spreads_J17 w _ h)
def dv_kind (x : Option Nat) (w : mW) : Option Int32 := Option.bind (tO w x) fun c => if c = 8 then f_X8_kind (x.getD 0) w else if c = 0 then f_X0_kind (x.getD 0) w else if c = 9 then f_X9_kind (x.getD 0) w else if c = 7 then f_X7_kind (x.getD 0) w else f_X1_kind (x.getD 0) w
def dv_batter (x : Option Nat) (w : mW) : Option Int32 := Option.bind (tO w x) fun c => if c = 8 then f_X8_batter (x.getD 0) w else if c = 0 then f_X0_batter (x.getD 0) w else if c = 9 then f_X9_batter (x.getD 0) w else if c = 7 then f_X7_batter (x.getD 0) w else f_X1_batter (x.getD 0) w
def dv_spreads (x : Option Nat) (a b : Int32) (w : mW) : Option Int32 := Option.bind (tO w x) fun c => if c = 8 then f_X8_spreads (x.getD 0) a b w else if c = 0 then f_X0_spreads (x.getD 0) a b w else if c = 9 then f_X9_spreads (x.getD 0) a b w else if c = 7 then f_X7_spreads (x.getD 0) a b w else f_X1_spreads (x.getD 0) a b w
set_option maxRecDepth 100000 in
theorem ev_dv_kind {X : mXs} {M : mM} {d : Nat} {r : Option mV} {w' : mW} {pc q : Nat} {L : List (Option mV)} {st : List mV} {w : mW} {idx : Nat} {x : Option Nat} { v : Int32} (hd : decode M.2.1 pc = .ok (.invokevirtual idx, 3)) (hq : pc + 3 = q) (hl : Cond.methodLink M.1.cls idx ⟨"PancakePort$Tosser", "kind", "()I"⟩ ∈ mWS) (hdd : 1 ≤ d) (hrs : (st.map mcat).sum ≤ 8) (h : dv_kind x  w = some v) (kk : mEv X M d r w' q L (vi v :: st) w) : mEv X M d r w' pc L (vr x :: st) w := by
  obtain ⟨c, hc, h⟩ := Option.bind_eq_some_iff.mp h
  obtain ⟨a0, fs, rfl, hw, hci⟩ := tO_spec hc
  rcases hci with rfl | rfl | rfl | rfl | rfl
  · rw [if_pos rfl] at h
    exact ev_invV (as := []) hd hq hl cal_X8_kind tw_507 tw_508 (by omega) rfl rfl hrs hw rfl (met_X8_kind a0  w _ h) kk
  · rw [if_neg (by decide), if_pos rfl] at h
    exact ev_invO (as := []) (x := ⟨"PancakePort$Tosser", "kind", "()I"⟩) hd hq hl tw_509 tw_507 tw_522 tw_510 cal_X0_kind tw_511 ⟨by decide, by decide, by decide +kernel⟩ (by omega) rfl rfl hrs hw rfl (met_X0_kind a0  w _ h) kk
  · rw [if_neg (by decide), if_neg (by decide), if_pos rfl] at h
    exact ev_invO (as := []) (x := ⟨"PancakePort$Tosser", "kind", "()I"⟩) hd hq hl tw_509 tw_507 tw_522 tw_519 cal_X9_kind tw_520 ⟨by decide, by decide, by decide +kernel⟩ (by omega) rfl rfl hrs hw rfl (met_X9_kind a0  w _ h) kk
  · rw [if_neg (by decide), if_neg (by decide), if_neg (by decide), if_pos rfl] at h
    exact ev_invO (as := []) (x := ⟨"PancakePort$Tosser", "kind", "()I"⟩) hd hq hl tw_509 tw_507 tw_522 tw_516 cal_X7_kind tw_517 ⟨by decide, by decide, by decide +kernel⟩ (by omega) rfl rfl hrs hw rfl (met_X7_kind a0  w _ h) kk
  · rw [if_neg (by decide), if_neg (by decide), if_neg (by decide), if_neg (by decide)] at h
    exact ev_invO (as := []) (x := ⟨"PancakePort$Tosser", "kind", "()I"⟩) hd hq hl tw_509 tw_507 tw_522 tw_513 cal_X1_kind tw_514 ⟨by decide, by decide, by decide +kernel⟩ (by omega) rfl rfl hrs hw rfl (met_X1_kind a0  w _ h) kk
set_option maxRecDepth 100000 in
theorem ev_dv_batter {X : mXs} {M : mM} {d : Nat} {r : Option mV} {w' : mW} {pc q : Nat} {L : List (Option mV)} {st : List mV} {w : mW} {idx : Nat} {x : Option Nat} { v : Int32} (hd : decode M.2.1 pc = .ok (.invokevirtual idx, 3)) (hq : pc + 3 = q) (hl : Cond.methodLink M.1.cls idx ⟨"PancakePort$Tosser", "batter", "()I"⟩ ∈ mWS) (hdd : 1 ≤ d) (hrs : (st.map mcat).sum ≤ 8) (h : dv_batter x  w = some v) (kk : mEv X M d r w' q L (vi v :: st) w) : mEv X M d r w' pc L (vr x :: st) w := by
  obtain ⟨c, hc, h⟩ := Option.bind_eq_some_iff.mp h
  obtain ⟨a0, fs, rfl, hw, hci⟩ := tO_spec hc
  rcases hci with rfl | rfl | rfl | rfl | rfl
  · rw [if_pos rfl] at h
    exact ev_invV (as := []) hd hq hl cal_X8_batter tw_524 tw_525 (by omega) rfl rfl hrs hw rfl (met_X8_batter a0  w _ h) kk
  · rw [if_neg (by decide), if_pos rfl] at h
    exact ev_invO (as := []) (x := ⟨"PancakePort$Tosser", "batter", "()I"⟩) hd hq hl tw_526 tw_524 tw_539 tw_527 cal_X0_batter tw_528 ⟨by decide, by decide, by decide +kernel⟩ (by omega) rfl rfl hrs hw rfl (met_X0_batter a0  w _ h) kk
  · rw [if_neg (by decide), if_neg (by decide), if_pos rfl] at h
    exact ev_invO (as := []) (x := ⟨"PancakePort$Tosser", "batter", "()I"⟩) hd hq hl tw_526 tw_524 tw_539 tw_536 cal_X9_batter tw_537 ⟨by decide, by decide, by decide +kernel⟩ (by omega) rfl rfl hrs hw rfl (met_X9_batter a0  w _ h) kk
  · rw [if_neg (by decide), if_neg (by decide), if_neg (by decide), if_pos rfl] at h
    exact ev_invO (as := []) (x := ⟨"PancakePort$Tosser", "batter", "()I"⟩) hd hq hl tw_526 tw_524 tw_539 tw_533 cal_X7_batter tw_534 ⟨by decide, by decide, by decide +kernel⟩ (by omega) rfl rfl hrs hw rfl (met_X7_batter a0  w _ h) kk
  · rw [if_neg (by decide), if_neg (by decide), if_neg (by decide), if_neg (by decide)] at h
    exact ev_invO (as := []) (x := ⟨"PancakePort$Tosser", "batter", "()I"⟩) hd hq hl tw_526 tw_524 tw_539 tw_530 cal_X1_batter tw_531 ⟨by decide, by decide, by decide +kernel⟩ (by omega) rfl rfl hrs hw rfl (met_X1_batter a0  w _ h) kk
set_option maxRecDepth 100000 in
theorem ev_dv_spreads {X : mXs} {M : mM} {d : Nat} {r : Option mV} {w' : mW} {pc q : Nat} {L : List (Option mV)} {st : List mV} {w : mW} {idx : Nat} {x : Option Nat} {a b v : Int32} (hd : decode M.2.1 pc = .ok (.invokevirtual idx, 3)) (hq : pc + 3 = q) (hl : Cond.methodLink M.1.cls idx ⟨"PancakePort$Tosser", "spreads", "(II)Z"⟩ ∈ mWS) (hdd : 3 ≤ d) (hrs : (st.map mcat).sum ≤ 8) (h : dv_spreads x a b w = some v) (kk : mEv X M d r w' q L (vi v :: st) w) : mEv X M d r w' pc L (vi b :: vi a :: vr x :: st) w := by
  obtain ⟨c, hc, h⟩ := Option.bind_eq_some_iff.mp h
  obtain ⟨a0, fs, rfl, hw, hci⟩ := tO_spec hc
  rcases hci with rfl | rfl | rfl | rfl | rfl
  · rw [if_pos rfl] at h
    exact ev_invV (as := [vi a, vi b]) hd hq hl cal_X8_spreads tw_475 tw_476 (by omega) rfl rfl hrs hw rfl (met_X8_spreads a0 a b w _ h) kk
  · rw [if_neg (by decide), if_pos rfl] at h
    exact ev_invO (as := [vi a, vi b]) (x := ⟨"PancakePort$Tosser", "spreads", "(II)Z"⟩) hd hq hl tw_477 tw_475 tw_496 tw_478 cal_X0_spreads tw_479 ⟨by decide, by decide, by decide +kernel⟩ (by omega) rfl rfl hrs hw rfl (met_X0_spreads a0 a b w _ h) kk
  · rw [if_neg (by decide), if_neg (by decide), if_pos rfl] at h
    exact ev_invO (as := [vi a, vi b]) (x := ⟨"PancakePort$Tosser", "spreads", "(II)Z"⟩) hd hq hl tw_477 tw_475 tw_496 tw_495 cal_X9_spreads tw_488 ⟨by decide, by decide, by decide +kernel⟩ (by omega) rfl rfl hrs hw rfl (met_X9_spreads a0 a b w _ h) kk
  · rw [if_neg (by decide), if_neg (by decide), if_neg (by decide), if_pos rfl] at h
    exact ev_invO (as := [vi a, vi b]) (x := ⟨"PancakePort$Tosser", "spreads", "(II)Z"⟩) hd hq hl tw_477 tw_475 tw_496 tw_491 cal_X7_spreads tw_492 ⟨by decide, by decide, by decide +kernel⟩ (by omega) rfl rfl hrs hw rfl (met_X7_spreads a0 a b w _ h) kk
  · rw [if_neg (by decide), if_neg (by decide), if_neg (by decide), if_neg (by decide)] at h
    exact ev_invO (as := [vi a, vi b]) (x := ⟨"PancakePort$Tosser", "spreads", "(II)Z"⟩) hd hq hl tw_477 tw_475 tw_496 tw_484 cal_X1_spreads tw_485 ⟨by decide, by decide, by decide +kernel⟩ (by omega) rfl rfl hrs hw rfl (met_X1_spreads a0 a b w _ h) kk
def f_X2_init (o : Nat) (w : mW) : Option (mW) := Option.bind (some (w ++ [.inr (.inl (6, fun _ => 0))])) fun w1 => Option.bind (pR w1 (some o) 2 0 (some w.length)) fun w2 => Option.bind (some (w2 ++ [.inr (.inl (6, fun _ => 0))])) fun w3 => Option.bind (pR w3 (some o) 2 1 (some w2.length)) fun w4 => Option.bind (some (w4 ++ [.inr (.inl (6, fun _ => 0))])) fun w5 => Option.bind (pR w5 (some o) 2 2 (some w4.length)) fun w6 => Option.bind (some (w6 ++ [.inr (.inl (4, fun _ => 0))])) fun w7 => Option.bind (pR w7 (some o) 2 3 (some w6.length)) fun w8 => Option.bind (some (w8 ++ [.inr (.inl (4, fun _ => 0))])) fun w9 => Option.bind (pR w9 (some o) 2 4 (some w8.length)) fun w10 => Option.bind (some (w10 ++ [.inr (.inl (4, fun _ => 0))])) fun w11 => Option.bind (pR w11 (some o) 2 5 (some w10.length)) fun w12 => Option.bind (some (w12 ++ [.inl (6, new_X6)])) fun w13 => Option.bind (f_X6_init w12.length  w13) fun w14 => Option.bind (pR w14 (some o) 2 6 (some w12.length)) fun w15 => some (w15)
set_option maxRecDepth 100000 in
set_option maxHeartbeats 4000000 in
theorem met_X2_init (o : Nat) (w : mW) (res : mW) (h : f_X2_init o w = some res) : mMet M_X2_init 2 [vr ((some o))] w none res := by
  refine ev_met (n := 0) (by decide) rfl fun X => ?_
  unfold f_X2_init at h
  show mEv X M_X2_init 2 _ _ 0 [some (vr ((some o)))] [] w
  refine ev_aload_n (q := 1) dX2_init_0 rfl rfl ?_
  refine ev_obj (q := 4) dX2_init_1 rfl tw_112 tw_obji tw_objc (by decide) (Nat.le_of_ble_eq_true rfl) ?_
  refine ev_aload_n (q := 5) dX2_init_4 rfl rfl ?_
  refine ev_bipush (q := 7) (v := (6 : Int32)) dX2_init_5 rfl (by decide) ?_
  replace h := Option.bind_eq_some_iff.mp h; obtain ⟨w1, hw1, h⟩ := h
  cases hw1
  refine ev_newi (N := 6) dX2_init_7 rfl tw_67 (by decide) (by decide) (by decide) ?_
  replace h := Option.bind_eq_some_iff.mp h; obtain ⟨w2, hw2, h⟩ := h
  refine ev_pRF dX2_init_9 rfl mFit_a fp_X2_9 hw2 rfl ?_
  refine ev_aload_n (q := 13) dX2_init_12 rfl rfl ?_
  refine ev_bipush (q := 15) (v := (6 : Int32)) dX2_init_13 rfl (by decide) ?_
  replace h := Option.bind_eq_some_iff.mp h; obtain ⟨w3, hw3, h⟩ := h
  cases hw3
  refine ev_newi (N := 6) dX2_init_15 rfl tw_67 (by decide) (by decide) (by decide) ?_
  replace h := Option.bind_eq_some_iff.mp h; obtain ⟨w4, hw4, h⟩ := h
  refine ev_pRF dX2_init_17 rfl mFit_a fp_X2_15 hw4 rfl ?_
  refine ev_aload_n (q := 21) dX2_init_20 rfl rfl ?_
  refine ev_bipush (q := 23) (v := (6 : Int32)) dX2_init_21 rfl (by decide) ?_
  replace h := Option.bind_eq_some_iff.mp h; obtain ⟨w5, hw5, h⟩ := h
  cases hw5
  refine ev_newi (N := 6) dX2_init_23 rfl tw_67 (by decide) (by decide) (by decide) ?_
  replace h := Option.bind_eq_some_iff.mp h; obtain ⟨w6, hw6, h⟩ := h
  refine ev_pRF dX2_init_25 rfl mFit_a fp_X2_18 hw6 rfl ?_
  refine ev_aload_n (q := 29) dX2_init_28 rfl rfl ?_
  refine ev_iconst (q := 30) (v := (4 : Int32)) dX2_init_29 rfl (by decide) ?_
  replace h := Option.bind_eq_some_iff.mp h; obtain ⟨w7, hw7, h⟩ := h
  cases hw7
  refine ev_newi (N := 4) dX2_init_30 rfl tw_67 (by decide) (by decide) (by decide) ?_
  replace h := Option.bind_eq_some_iff.mp h; obtain ⟨w8, hw8, h⟩ := h
  refine ev_pRF dX2_init_32 rfl mFit_a fp_X2_21 hw8 rfl ?_
  refine ev_aload_n (q := 36) dX2_init_35 rfl rfl ?_
  refine ev_iconst (q := 37) (v := (4 : Int32)) dX2_init_36 rfl (by decide) ?_
  replace h := Option.bind_eq_some_iff.mp h; obtain ⟨w9, hw9, h⟩ := h
  cases hw9
  refine ev_newi (N := 4) dX2_init_37 rfl tw_67 (by decide) (by decide) (by decide) ?_
  replace h := Option.bind_eq_some_iff.mp h; obtain ⟨w10, hw10, h⟩ := h
  refine ev_pRF dX2_init_39 rfl mFit_a fp_X2_24 hw10 rfl ?_
  refine ev_aload_n (q := 43) dX2_init_42 rfl rfl ?_
  refine ev_iconst (q := 44) (v := (4 : Int32)) dX2_init_43 rfl (by decide) ?_
  replace h := Option.bind_eq_some_iff.mp h; obtain ⟨w11, hw11, h⟩ := h
  cases hw11
  refine ev_newi (N := 4) dX2_init_44 rfl tw_67 (by decide) (by decide) (by decide) ?_
  replace h := Option.bind_eq_some_iff.mp h; obtain ⟨w12, hw12, h⟩ := h
  refine ev_pRF dX2_init_46 rfl mFit_a fp_X2_27 hw12 rfl ?_
  refine ev_aload_n (q := 50) dX2_init_49 rfl rfl ?_
  replace h := Option.bind_eq_some_iff.mp h; obtain ⟨w13, hw13, h⟩ := h
  cases hw13
  refine ev_new (ci := 6) (fs := new_X6) tyX6 dX2_init_50 rfl rfl inm_X6 tyX6_ok tw_113 tw_114 tw_29 rfl new_X6_ok ?_
  refine ev_dup (q := 54) dX2_init_53 rfl rfl ?_
  replace h := Option.bind_eq_some_iff.mp h; obtain ⟨w14, hw14, h⟩ := h
  refine ev_invIN (M1 := M_X6_init) (as := []) dX2_init_54 rfl tw_115 cal_X6_init tw_116 rfl rfl (by decide) rfl rfl (Nat.le_of_ble_eq_true rfl) (met_X6_init w12.length  (w12 ++ [.inl (6, new_X6)]) _ hw14) ?_
  replace h := Option.bind_eq_some_iff.mp h; obtain ⟨w15, hw15, h⟩ := h
  refine ev_pRF dX2_init_57 rfl mFit_o fp_X2_33 hw15 rfl ?_
  cases h
  exact ev_vret dX2_init_60 rfl
def f_X2_begin (o : Nat) (v1 : Option Nat) (w : mW) : Option (mW) := oC v1 (some (w)) (fun a1 => Option.bind (gR w (some a1) 5 0) fun r2 => Option.bind (gR w (some o) 2 0) fun r3 => Option.bind (f_X10_copy r2 r3 w) fun w4 => Option.bind (gR w4 (some a1) 5 2) fun r5 => Option.bind (gR w4 (some o) 2 3) fun r6 => Option.bind (f_X10_copy r5 r6 w4) fun w7 => Option.bind (gR w7 (some a1) 5 3) fun r8 => Option.bind (gR w7 (some o) 2 4) fun r9 => Option.bind (f_X10_copy r8 r9 w7) fun w10 => Option.bind (gR w10 (some o) 2 1) fun r11 => Option.bind (f_X10_clear r11 w10) fun w12 => Option.bind (gR w12 (some o) 2 2) fun r13 => Option.bind (f_X10_clear r13 w12) fun w14 => Option.bind (gR w14 (some o) 2 5) fun r15 => Option.bind (f_X10_clear r15 w14) fun w16 => Option.bind (gR w16 (some o) 2 6) fun r17 => Option.bind (pI w16 r17 6 3 (0 : Int32)) fun w18 => Option.bind (pI w18 (some o) 2 7 (0 : Int32)) fun w19 => Option.bind (pI w19 (some o) 2 8 (0 : Int32)) fun w20 => Option.bind (pI w20 (some o) 2 9 (60 : Int32)) fun w21 => Option.bind (pI w21 (some o) 2 10 (0 : Int32)) fun w22 => Option.bind (pI w22 (some o) 2 11 (0 : Int32)) fun w23 => some (w23))
set_option maxRecDepth 100000 in
set_option maxHeartbeats 4000000 in
theorem met_X2_begin (o : Nat) (v1 : Option Nat) (w : mW) (res : mW) (h : f_X2_begin o v1 w = some res) : mMet M_X2_begin 2 [vr ((some o)), vr v1] w none res := by
  refine ev_met (n := 0) (by decide) rfl fun X => ?_
  unfold f_X2_begin at h
  show mEv X M_X2_begin 2 _ _ 0 [some (vr ((some o))), some (vr v1)] [] w
  refine ev_aload_n (q := 1) dX2_begin_0 rfl rfl ?_
  rcases v1 with _ | a1
  · dsimp only [oC] at h
    refine ev_ifnonnull_f (q := 4) dX2_begin_1 rfl ?_
    cases h
    exact ev_vret dX2_begin_4 rfl
  · dsimp only [oC] at h
    refine ev_ifnonnull_t (q := 5) dX2_begin_1 (by decide) ?_
    refine ev_aload_n (q := 6) dX2_begin_5 rfl rfl ?_
    replace h := Option.bind_eq_some_iff.mp h; obtain ⟨r2, hr2, h⟩ := h
    refine ev_gR dX2_begin_6 fl_X2_37 hr2 rfl ?_
    refine ev_aload_n (q := 10) dX2_begin_9 rfl rfl ?_
    replace h := Option.bind_eq_some_iff.mp h; obtain ⟨r3, hr3, h⟩ := h
    refine ev_gR dX2_begin_10 fl_X2_9 hr3 rfl ?_
    replace h := Option.bind_eq_some_iff.mp h; obtain ⟨w4, hw4, h⟩ := h
    refine ev_invSN (M1 := M_X10_copy) (as := [vr r2, vr r3]) dX2_begin_13 rfl tw_399 cal_X10_copy tw_400 (by decide) rfl rfl (Nat.le_of_ble_eq_true rfl) (met_X10_copy r2 r3 w _ hw4) ?_
    refine ev_aload_n (q := 17) dX2_begin_16 rfl rfl ?_
    replace h := Option.bind_eq_some_iff.mp h; obtain ⟨r5, hr5, h⟩ := h
    refine ev_gR dX2_begin_17 fl_X2_44 hr5 rfl ?_
    refine ev_aload_n (q := 21) dX2_begin_20 rfl rfl ?_
    replace h := Option.bind_eq_some_iff.mp h; obtain ⟨r6, hr6, h⟩ := h
    refine ev_gR dX2_begin_21 fl_X2_21 hr6 rfl ?_
    replace h := Option.bind_eq_some_iff.mp h; obtain ⟨w7, hw7, h⟩ := h
    refine ev_invSN (M1 := M_X10_copy) (as := [vr r5, vr r6]) dX2_begin_24 rfl tw_399 cal_X10_copy tw_400 (by decide) rfl rfl (Nat.le_of_ble_eq_true rfl) (met_X10_copy r5 r6 w4 _ hw7) ?_
    refine ev_aload_n (q := 28) dX2_begin_27 rfl rfl ?_
    replace h := Option.bind_eq_some_iff.mp h; obtain ⟨r8, hr8, h⟩ := h
    refine ev_gR dX2_begin_28 fl_X2_45 hr8 rfl ?_
    refine ev_aload_n (q := 32) dX2_begin_31 rfl rfl ?_
    replace h := Option.bind_eq_some_iff.mp h; obtain ⟨r9, hr9, h⟩ := h
    refine ev_gR dX2_begin_32 fl_X2_24 hr9 rfl ?_
    replace h := Option.bind_eq_some_iff.mp h; obtain ⟨w10, hw10, h⟩ := h
    refine ev_invSN (M1 := M_X10_copy) (as := [vr r8, vr r9]) dX2_begin_35 rfl tw_399 cal_X10_copy tw_400 (by decide) rfl rfl (Nat.le_of_ble_eq_true rfl) (met_X10_copy r8 r9 w7 _ hw10) ?_
    refine ev_aload_n (q := 39) dX2_begin_38 rfl rfl ?_
    replace h := Option.bind_eq_some_iff.mp h; obtain ⟨r11, hr11, h⟩ := h
    refine ev_gR dX2_begin_39 fl_X2_15 hr11 rfl ?_
    replace h := Option.bind_eq_some_iff.mp h; obtain ⟨w12, hw12, h⟩ := h
    refine ev_invSN (M1 := M_X10_clear) (as := [vr r11]) dX2_begin_42 rfl tw_403 cal_X10_clear tw_404 (by decide) rfl rfl (Nat.le_of_ble_eq_true rfl) (met_X10_clear r11 w10 _ hw12) ?_
    refine ev_aload_n (q := 46) dX2_begin_45 rfl rfl ?_
    replace h := Option.bind_eq_some_iff.mp h; obtain ⟨r13, hr13, h⟩ := h
    refine ev_gR dX2_begin_46 fl_X2_18 hr13 rfl ?_
    replace h := Option.bind_eq_some_iff.mp h; obtain ⟨w14, hw14, h⟩ := h
    refine ev_invSN (M1 := M_X10_clear) (as := [vr r13]) dX2_begin_49 rfl tw_403 cal_X10_clear tw_404 (by decide) rfl rfl (Nat.le_of_ble_eq_true rfl) (met_X10_clear r13 w12 _ hw14) ?_
    refine ev_aload_n (q := 53) dX2_begin_52 rfl rfl ?_
    replace h := Option.bind_eq_some_iff.mp h; obtain ⟨r15, hr15, h⟩ := h
    refine ev_gR dX2_begin_53 fl_X2_27 hr15 rfl ?_
    replace h := Option.bind_eq_some_iff.mp h; obtain ⟨w16, hw16, h⟩ := h
    refine ev_invSN (M1 := M_X10_clear) (as := [vr r15]) dX2_begin_56 rfl tw_403 cal_X10_clear tw_404 (by decide) rfl rfl (Nat.le_of_ble_eq_true rfl) (met_X10_clear r15 w14 _ hw16) ?_
    refine ev_aload_n (q := 60) dX2_begin_59 rfl rfl ?_
    replace h := Option.bind_eq_some_iff.mp h; obtain ⟨r17, hr17, h⟩ := h
    refine ev_gR dX2_begin_60 fl_X2_33 hr17 rfl ?_
    refine ev_iconst (q := 64) (v := (0 : Int32)) dX2_begin_63 rfl (by decide) ?_
    replace h := Option.bind_eq_some_iff.mp h; obtain ⟨w18, hw18, h⟩ := h
    refine ev_pI dX2_begin_64 fp_X2_50 hw18 rfl ?_
    refine ev_aload_n (q := 68) dX2_begin_67 rfl rfl ?_
    refine ev_iconst (q := 69) (v := (0 : Int32)) dX2_begin_68 rfl (by decide) ?_
    replace h := Option.bind_eq_some_iff.mp h; obtain ⟨w19, hw19, h⟩ := h
    refine ev_pI dX2_begin_69 fp_X2_54 hw19 rfl ?_
    refine ev_aload_n (q := 73) dX2_begin_72 rfl rfl ?_
    refine ev_iconst (q := 74) (v := (0 : Int32)) dX2_begin_73 rfl (by decide) ?_
    replace h := Option.bind_eq_some_iff.mp h; obtain ⟨w20, hw20, h⟩ := h
    refine ev_pI dX2_begin_74 fp_X2_57 hw20 rfl ?_
    refine ev_aload_n (q := 78) dX2_begin_77 rfl rfl ?_
    refine ev_bipush (q := 80) (v := (60 : Int32)) dX2_begin_78 rfl (by decide) ?_
    replace h := Option.bind_eq_some_iff.mp h; obtain ⟨w21, hw21, h⟩ := h
    refine ev_pI dX2_begin_80 fp_X2_60 hw21 rfl ?_
    refine ev_aload_n (q := 84) dX2_begin_83 rfl rfl ?_
    refine ev_iconst (q := 85) (v := (0 : Int32)) dX2_begin_84 rfl (by decide) ?_
    replace h := Option.bind_eq_some_iff.mp h; obtain ⟨w22, hw22, h⟩ := h
    refine ev_pI dX2_begin_85 fp_X2_63 hw22 rfl ?_
    refine ev_aload_n (q := 89) dX2_begin_88 rfl rfl ?_
    refine ev_iconst (q := 90) (v := (0 : Int32)) dX2_begin_89 rfl (by decide) ?_
    replace h := Option.bind_eq_some_iff.mp h; obtain ⟨w23, hw23, h⟩ := h
    refine ev_pI dX2_begin_90 fp_X2_66 hw23 rfl ?_
    cases h
    exact ev_vret dX2_begin_93 rfl
def f_X6_allows_J59 (kc : Int32 → Option ((Int32) ⊕ (Unit))) (o : Nat) (v1 : Int32) (v2 : Int32) (v3 : Int32) (w : mW) : Option ((Int32) ⊕ (Unit)) := kc (v3 + (1 : Int32))
set_option maxRecDepth 100000 in
set_option maxHeartbeats 4000000 in
theorem e_X6_allows_J59 {X : mXs} {r : Option mV} {w' : mW} (P : ((Int32) ⊕ (Unit)) → Prop) (o : Nat) (v1 : Int32) (v2 : Int32) (v3 : Int32) (w : mW) (kc : Int32 → Option ((Int32) ⊕ (Unit))) (hk : ∀ (u3 : Int32) (e : (Int32) ⊕ (Unit)), kc u3 = some e → P e → mEv X M_X6_allows 2 r w' 2 [some (vr ((some o))), some (vi v1), some (vi v2), some (vi u3), none] [] w) (e : (Int32) ⊕ (Unit)) (h : f_X6_allows_J59 kc o v1 v2 v3 w = some e) (hP : P e) : mEv X M_X6_allows 2 r w' 59 [some (vr ((some o))), some (vi v1), some (vi v2), some (vi v3), none] [] w := by
  unfold f_X6_allows_J59 at h
  refine ev_iinc (q := 62) (v := v3 + (1 : Int32)) dX6_allows_59 rfl (by decide) rfl (by rfl) ?_
  refine ev_goto (q := 2) dX6_allows_62 (by decide) ?_
  exact ev_weak _ (mLe_some (mLe_some (mLe_some (mLe_some (mLe_none mLe_nil))))) (hk (v3 + (1 : Int32)) _ h hP)
def f_X6_allows_J27 (kc : Int32 → Option ((Int32) ⊕ (Unit))) (o : Nat) (v1 : Int32) (v2 : Int32) (v3 : Int32) (s0 : Int32) (w : mW) : Option ((Int32) ⊕ (Unit)) := if s0 = 0 then (f_X6_allows_J59 kc o v1 v2 v3 w) else (Option.bind (gR w (some o) 6 1) fun r1 => Option.bind (f_X10_at r1 v3 w) fun r2 => Option.bind (f_X10_columnBy r2 v2 w) fun r3 => Option.bind (gR w (some o) 6 2) fun r4 => Option.bind (f_X10_at r4 v3 w) fun r5 => if r3 = r5 then (f_X6_allows_J59 kc o v1 v2 v3 w) else (some (.inl (0 : Int32))))
set_option maxRecDepth 100000 in
set_option maxHeartbeats 4000000 in
theorem e_X6_allows_J27 {X : mXs} {r : Option mV} {w' : mW} (P : ((Int32) ⊕ (Unit)) → Prop) (o : Nat) (v1 : Int32) (v2 : Int32) (v3 : Int32) (s0 : Int32) (w : mW) (hret : ∀ y, P (.inl y) → r = (some (vi y)) ∧ w' = w) (kc : Int32 → Option ((Int32) ⊕ (Unit))) (hk : ∀ (u3 : Int32) (e : (Int32) ⊕ (Unit)), kc u3 = some e → P e → mEv X M_X6_allows 2 r w' 2 [some (vr ((some o))), some (vi v1), some (vi v2), some (vi u3), none] [] w) (e : (Int32) ⊕ (Unit)) (h : f_X6_allows_J27 kc o v1 v2 v3 s0 w = some e) (hP : P e) : mEv X M_X6_allows 2 r w' 27 [some (vr ((some o))), some (vi v1), some (vi v2), some (vi v3), none] [vi s0] w := by
  unfold f_X6_allows_J27 at h
  refine ev_istore (q := 29) dX6_allows_27 rfl (by decide) ?_
  refine ev_iload (q := 31) dX6_allows_29 rfl rfl ?_
  by_cases hc : s0 = 0
  · rw [if_pos hc] at h
    refine ev_if_eq_t (q := 59) dX6_allows_31 (by decide) hc ?_
    exact ev_weak _ (mLe_some (mLe_some (mLe_some (mLe_some (mLe_none mLe_nil))))) (e_X6_allows_J59 P o v1 v2 v3 w _ hk  _ h hP)
  · rw [if_neg hc] at h
    refine ev_if_eq_f (q := 34) (t0 := 59) dX6_allows_31 (by decide) rfl hc ?_
    refine ev_aload_n (q := 35) dX6_allows_34 rfl rfl ?_
    replace h := Option.bind_eq_some_iff.mp h; obtain ⟨r1, hr1, h⟩ := h
    refine ev_gR dX6_allows_35 fl_X6_15 hr1 rfl ?_
    refine ev_iload_n (q := 39) dX6_allows_38 rfl rfl ?_
    replace h := Option.bind_eq_some_iff.mp h; obtain ⟨r2, hr2, h⟩ := h
    refine ev_invSN (M1 := M_X10_at) (as := [vr r1, vi v3]) dX6_allows_39 rfl tw_566 cal_X10_at tw_252 (by decide) rfl rfl (Nat.le_of_ble_eq_true rfl) (met_X10_at r1 v3 w _ hr2) ?_
    refine ev_iload_n (q := 43) dX6_allows_42 rfl rfl ?_
    replace h := Option.bind_eq_some_iff.mp h; obtain ⟨r3, hr3, h⟩ := h
    refine ev_invSN (M1 := M_X10_columnBy) (as := [vi r2, vi v2]) dX6_allows_43 rfl tw_567 cal_X10_columnBy tw_568 (by decide) rfl rfl (Nat.le_of_ble_eq_true rfl) (met_X10_columnBy r2 v2 w _ hr3) ?_
    refine ev_aload_n (q := 47) dX6_allows_46 rfl rfl ?_
    replace h := Option.bind_eq_some_iff.mp h; obtain ⟨r4, hr4, h⟩ := h
    refine ev_gR dX6_allows_47 fl_X6_18 hr4 rfl ?_
    refine ev_iload_n (q := 51) dX6_allows_50 rfl rfl ?_
    replace h := Option.bind_eq_some_iff.mp h; obtain ⟨r5, hr5, h⟩ := h
    refine ev_invSN (M1 := M_X10_at) (as := [vr r4, vi v3]) dX6_allows_51 rfl tw_566 cal_X10_at tw_252 (by decide) rfl rfl (Nat.le_of_ble_eq_true rfl) (met_X10_at r4 v3 w _ hr5) ?_
    by_cases hc : r3 = r5
    · rw [if_pos hc] at h
      refine ev_icmp_eq_t (q := 59) dX6_allows_54 (by decide) hc ?_
      exact ev_weak _ (mLe_some (mLe_some (mLe_some (mLe_some (mLe_none mLe_nil))))) (e_X6_allows_J59 P o v1 v2 v3 w _ hk  _ h hP)
    · rw [if_neg hc] at h
      refine ev_icmp_eq_f (q := 57) (t0 := 59) dX6_allows_54 (by decide) rfl hc ?_
      refine ev_iconst (q := 58) (v := (0 : Int32)) dX6_allows_57 rfl (by decide) ?_
      cases h
      obtain ⟨hr1, hr2⟩ := hret _ hP
      subst hr1
      subst hr2
      exact ev_zret dX6_allows_58 rfl (Or.inl rfl)
def f_X6_allows_L2 (o : Nat) (v1 : Int32) (v2 : Int32) (w : mW) : Nat → Int32 → Option ((Int32) ⊕ (Unit))
  | 0, _ => none
  | n + 1, v3 => Option.bind (gI w (some o) 6 3) fun r6 => if r6 ≤ v3 then (some (.inr ())) else (Option.bind (gR w (some o) 6 0) fun r7 => Option.bind (f_X10_at r7 v3 w) fun r8 => if r8 = v1 then (f_X6_allows_J27 (f_X6_allows_L2 o v1 v2 w n) o v1 v2 v3 (1 : Int32) w) else (f_X6_allows_J27 (f_X6_allows_L2 o v1 v2 w n) o v1 v2 v3 (0 : Int32) w))
set_option maxRecDepth 100000 in
set_option maxHeartbeats 4000000 in
theorem e_X6_allows_L2 {X : mXs} {r : Option mV} {w' : mW} (P : ((Int32) ⊕ (Unit)) → Prop) (o : Nat) (v1 : Int32) (v2 : Int32) (w : mW) (hret : ∀ y, P (.inl y) → r = (some (vi y)) ∧ w' = w) (hexit : ∀ y, P (.inr y) → mEv X M_X6_allows 2 r w' 65 [none, none, none, none, none] [] w) : ∀ (n : Nat) (v3 : Int32) (e : (Int32) ⊕ (Unit)), f_X6_allows_L2 o v1 v2 w n v3 = some e → P e → mEv X M_X6_allows 2 r w' 2 [some (vr ((some o))), some (vi v1), some (vi v2), some (vi v3), none] [] w := by
  intro n
  induction n with
  | zero =>
    intro v3 e h hP
    rw [f_X6_allows_L2] at h
    cases h
  | succ n hk =>
    intro v3 e h hP
    rw [f_X6_allows_L2] at h
    refine ev_iload_n (q := 3) dX6_allows_2 rfl rfl ?_
    refine ev_aload_n (q := 4) dX6_allows_3 rfl rfl ?_
    replace h := Option.bind_eq_some_iff.mp h; obtain ⟨r6, hr6, h⟩ := h
    refine ev_gI dX6_allows_4 fl_X6_21 hr6 rfl ?_
    by_cases hc : r6 ≤ v3
    · rw [if_pos hc] at h
      refine ev_icmp_ge_t (q := 65) dX6_allows_7 (by decide) hc ?_
      cases h
      exact ev_weak _ (mLe_none (mLe_none (mLe_none (mLe_none (mLe_none mLe_nil))))) (hexit _ hP)
    · rw [if_neg hc] at h
      refine ev_icmp_ge_f (q := 10) (t0 := 65) dX6_allows_7 (by decide) rfl hc ?_
      refine ev_aload_n (q := 11) dX6_allows_10 rfl rfl ?_
      replace h := Option.bind_eq_some_iff.mp h; obtain ⟨r7, hr7, h⟩ := h
      refine ev_gR dX6_allows_11 fl_X6_9 hr7 rfl ?_
      refine ev_iload_n (q := 15) dX6_allows_14 rfl rfl ?_
      replace h := Option.bind_eq_some_iff.mp h; obtain ⟨r8, hr8, h⟩ := h
      refine ev_invSN (M1 := M_X10_at) (as := [vr r7, vi v3]) dX6_allows_15 rfl tw_566 cal_X10_at tw_252 (by decide) rfl rfl (Nat.le_of_ble_eq_true rfl) (met_X10_at r7 v3 w _ hr8) ?_
      refine ev_iload_n (q := 19) dX6_allows_18 rfl rfl ?_
      by_cases hc : r8 = v1
      · rw [if_pos hc] at h
        refine ev_icmp_ne_f (q := 22) (t0 := 26) dX6_allows_19 (by decide) rfl hc ?_
        refine ev_iconst (q := 23) (v := (1 : Int32)) dX6_allows_22 rfl (by decide) ?_
        refine ev_goto (q := 27) dX6_allows_23 (by decide) ?_
        exact ev_weak _ (mLe_some (mLe_some (mLe_some (mLe_some (mLe_none mLe_nil))))) (e_X6_allows_J27 P o v1 v2 v3 (1 : Int32) w hret _ hk  _ h hP)
      · rw [if_neg hc] at h
        refine ev_icmp_ne_t (q := 26) dX6_allows_19 (by decide) hc ?_
        refine ev_iconst (q := 27) (v := (0 : Int32)) dX6_allows_26 rfl (by decide) ?_
        exact ev_weak _ (mLe_some (mLe_some (mLe_some (mLe_some (mLe_none mLe_nil))))) (e_X6_allows_J27 P o v1 v2 v3 (0 : Int32) w hret _ hk  _ h hP)
def f_X6_allows (o : Nat) (v1 : Int32) (v2 : Int32) (w : mW) : Option (Int32) := Option.bind (f_X6_allows_L2 o v1 v2 w mFuel (0 : Int32)) fun e9 => match e9 with | .inl y11 => some y11 | .inr y10 => some ((1 : Int32))
set_option maxRecDepth 100000 in
set_option maxHeartbeats 4000000 in
theorem met_X6_allows (o : Nat) (v1 : Int32) (v2 : Int32) (w : mW) (res : Int32) (h : f_X6_allows o v1 v2 w = some res) : mMet M_X6_allows 2 [vr ((some o)), vi v1, vi v2] w (some (vi res)) w := by
  refine ev_met (n := 2) (by decide) rfl fun X => ?_
  unfold f_X6_allows at h
  show mEv X M_X6_allows 2 _ _ 0 [some (vr ((some o))), some (vi v1), some (vi v2), none, none] [] w
  refine ev_iconst (q := 1) (v := (0 : Int32)) dX6_allows_0 rfl (by decide) ?_
  refine ev_istore_n (q := 2) dX6_allows_1 rfl (by decide) ?_
  replace h := Option.bind_eq_some_iff.mp h; obtain ⟨e9, he9, h⟩ := h
  refine ev_weak _ (mLe_some (mLe_some (mLe_some (mLe_some (mLe_none mLe_nil))))) (e_X6_allows_L2 (fun z => e9 = z) o v1 v2 w (fun y11 hq => ?_) (fun y10 hq => ?_) mFuel (0 : Int32) _ he9 rfl)
  · subst hq
    dsimp only at h
    cases h
    exact ⟨rfl, rfl⟩
  · subst hq
    dsimp only at h
    refine ev_iconst (q := 66) (v := (1 : Int32)) dX6_allows_65 rfl (by decide) ?_
    cases h
    exact ev_zret dX6_allows_66 rfl (Or.inr rfl)
def f_X7_init (o : Nat) (w : mW) : Option (Unit) := Option.bind (f_X8_init o  w) fun r1 => some (())
set_option maxRecDepth 100000 in
set_option maxHeartbeats 4000000 in
theorem met_X7_init (o : Nat) (w : mW) (res : Unit) (h : f_X7_init o w = some res) : mMet M_X7_init 2 [vr ((some o))] w none w := by
  refine ev_met (n := 0) (by decide) rfl fun X => ?_
  unfold f_X7_init at h
  show mEv X M_X7_init 2 _ _ 0 [some (vr ((some o)))] [] w
  refine ev_aload_n (q := 1) dX7_init_0 rfl rfl ?_
  replace h := Option.bind_eq_some_iff.mp h; obtain ⟨r1, hr1, h⟩ := h
  refine ev_invIN (M1 := M_X8_init) (as := []) dX7_init_1 rfl tw_432 cal_X8_init tw_416 rfl rfl (by decide) rfl rfl (Nat.le_of_ble_eq_true rfl) (met_X8_init o  w _ hr1) ?_
  cases h
  exact ev_vret dX7_init_4 rfl
def f_X9_init (o : Nat) (w : mW) : Option (Unit) := Option.bind (f_X8_init o  w) fun r1 => some (())
set_option maxRecDepth 100000 in
set_option maxHeartbeats 4000000 in
theorem met_X9_init (o : Nat) (w : mW) (res : Unit) (h : f_X9_init o w = some res) : mMet M_X9_init 2 [vr ((some o))] w none w := by
  refine ev_met (n := 0) (by decide) rfl fun X => ?_
  unfold f_X9_init at h
  show mEv X M_X9_init 2 _ _ 0 [some (vr ((some o)))] [] w
  refine ev_aload_n (q := 1) dX9_init_0 rfl rfl ?_
  replace h := Option.bind_eq_some_iff.mp h; obtain ⟨r1, hr1, h⟩ := h
  refine ev_invIN (M1 := M_X8_init) (as := []) dX9_init_1 rfl tw_425 cal_X8_init tw_416 rfl rfl (by decide) rfl rfl (Nat.le_of_ble_eq_true rfl) (met_X8_init o  w _ hr1) ?_
  cases h
  exact ev_vret dX9_init_4 rfl
def f_J0_indexOf_7cf53_J36 (s0 : Int32) (w : mW) : Option (Int32) := some (s0)
set_option maxRecDepth 100000 in
set_option maxHeartbeats 4000000 in
theorem e_J0_indexOf_7cf53_J36 {X : mXs} (s0 : Int32) (w : mW) (res : Int32) (h : f_J0_indexOf_7cf53_J36 s0 w = some res) : mEv X M_J0_indexOf_7cf53 2 (some (vi res)) w 36 [none, none, none] [vi s0] w := by
  unfold f_J0_indexOf_7cf53_J36 at h
  cases h
  exact ev_iret dJ0_indexOf_7cf53_36 rfl rfl
def f_J0_indexOf_7cf53 (v1 : Int32) (v2 : Int32) (w : mW) : Option (Int32) := Option.bind (f_J0_isLatin1_aae02  w) fun r1 => if r1 = 0 then (Option.bind (f_J0_length_8abf5  w) fun r2 => none) else (Option.bind (f_J0_length_8abf5  w) fun r3 => Option.bind (f_J1_indexOf_4cfef v1 v2 r3 w) fun r4 => f_J0_indexOf_7cf53_J36 r4 w)
set_option maxRecDepth 100000 in
set_option maxHeartbeats 4000000 in
theorem met_J0_indexOf_7cf53 (v1 : Int32) (v2 : Int32) (w : mW) (res : Int32) (h : f_J0_indexOf_7cf53 v1 v2 w = some res) : mMet M_J0_indexOf_7cf53 2 [vx 1, vi v1, vi v2] w (some (vi res)) w := by
  refine ev_met (n := 0) (by decide) rfl fun X => ?_
  unfold f_J0_indexOf_7cf53 at h
  show mEv X M_J0_indexOf_7cf53 2 _ _ 0 [some (vx 1), some (vi v1), some (vi v2)] [] w
  refine ev_aload_n (q := 1) dJ0_indexOf_7cf53_0 rfl rfl ?_
  replace h := Option.bind_eq_some_iff.mp h; obtain ⟨r1, hr1, h⟩ := h
  refine ev_invStr (M1 := M_J0_isLatin1_aae02) (as := []) dJ0_indexOf_7cf53_1 rfl tw_289 rfl cal_J0_isLatin1_aae02 tw_290 tw_291 (by decide) rfl rfl (Nat.le_of_ble_eq_true rfl) (met_J0_isLatin1_aae02  w _ hr1) ?_
  by_cases hc : r1 = 0
  · rw [if_pos hc] at h
    refine ev_if_eq_t (q := 23) dJ0_indexOf_7cf53_4 (by decide) hc ?_
    refine ev_aload_n (q := 24) dJ0_indexOf_7cf53_23 rfl rfl ?_
    refine ev_value (q := 27) dJ0_indexOf_7cf53_24 rfl tw_744 ?_
    refine ev_iload_n (q := 28) dJ0_indexOf_7cf53_27 rfl rfl ?_
    refine ev_iload_n (q := 29) dJ0_indexOf_7cf53_28 rfl rfl ?_
    refine ev_aload_n (q := 30) dJ0_indexOf_7cf53_29 rfl rfl ?_
    replace h := Option.bind_eq_some_iff.mp h; obtain ⟨r2, hr2, h⟩ := h
    refine ev_invStr (M1 := M_J0_length_8abf5) (as := []) dJ0_indexOf_7cf53_30 rfl tw_295 rfl cal_J0_length_8abf5 tw_296 tw_297 (by decide) rfl rfl (Nat.le_of_ble_eq_true rfl) (met_J0_length_8abf5  w _ hr2) ?_
    cases h
  · rw [if_neg hc] at h
    refine ev_if_eq_f (q := 7) (t0 := 23) dJ0_indexOf_7cf53_4 (by decide) rfl hc ?_
    refine ev_aload_n (q := 8) dJ0_indexOf_7cf53_7 rfl rfl ?_
    refine ev_value (q := 11) dJ0_indexOf_7cf53_8 rfl tw_744 ?_
    refine ev_iload_n (q := 12) dJ0_indexOf_7cf53_11 rfl rfl ?_
    refine ev_iload_n (q := 13) dJ0_indexOf_7cf53_12 rfl rfl ?_
    refine ev_aload_n (q := 14) dJ0_indexOf_7cf53_13 rfl rfl ?_
    replace h := Option.bind_eq_some_iff.mp h; obtain ⟨r3, hr3, h⟩ := h
    refine ev_invStr (M1 := M_J0_length_8abf5) (as := []) dJ0_indexOf_7cf53_14 rfl tw_295 rfl cal_J0_length_8abf5 tw_296 tw_297 (by decide) rfl rfl (Nat.le_of_ble_eq_true rfl) (met_J0_length_8abf5  w _ hr3) ?_
    replace h := Option.bind_eq_some_iff.mp h; obtain ⟨r4, hr4, h⟩ := h
    refine ev_invS (M1 := M_J1_indexOf_4cfef) (as := [vx 2, vi v1, vi v2, vi r3]) dJ0_indexOf_7cf53_17 rfl tw_303 cal_J1_indexOf_4cfef tw_304 (by decide) rfl rfl (Nat.le_of_ble_eq_true rfl) (met_J1_indexOf_4cfef v1 v2 r3 w _ hr4) ?_
    refine ev_goto (q := 36) dJ0_indexOf_7cf53_20 (by decide) ?_
    exact ev_weak _ (mLe_none (mLe_none (mLe_none mLe_nil))) (e_J0_indexOf_7cf53_J36 r4 w _ h)
def f_X10_init (o : Nat) (w : mW) : Option (mW) := Option.bind (some (w ++ [.inl (3, new_X3)])) fun w1 => Option.bind (f_X3_init w.length  w1) fun w2 => Option.bind (pR w2 (some o) 10 0 (some w.length)) fun w3 => Option.bind (some (w3 ++ [.inl (5, new_X5)])) fun w4 => Option.bind (f_X5_init w3.length  w4) fun w5 => Option.bind (pR w5 (some o) 10 1 (some w3.length)) fun w6 => Option.bind (some (w6 ++ [.inr (.inr (4, fun _ => none))])) fun w7 => Option.bind (pR w7 (some o) 10 2 (some w6.length)) fun w8 => Option.bind (some (w8 ++ [.inl (2, new_X2)])) fun w9 => Option.bind (f_X2_init w8.length  w9) fun w10 => Option.bind (pR w10 (some o) 10 3 (some w8.length)) fun w11 => Option.bind (some (w11 ++ [.inl (2, new_X2)])) fun w12 => Option.bind (f_X2_init w11.length  w12) fun w13 => Option.bind (pR w13 (some o) 10 4 (some w11.length)) fun w14 => Option.bind (some (w14 ++ [.inl (4, new_X4)])) fun w15 => Option.bind (f_X4_init w14.length  w15) fun w16 => Option.bind (pR w16 (some o) 10 5 (some w14.length)) fun w17 => Option.bind (some (w17 ++ [.inr (.inl (36, fun _ => 0))])) fun w18 => Option.bind (pR w18 (some o) 10 6 (some w17.length)) fun w19 => some (w19)
set_option maxRecDepth 100000 in
set_option maxHeartbeats 4000000 in
theorem met_X10_init (o : Nat) (w : mW) (res : mW) (h : f_X10_init o w = some res) : mMet M_X10_init 3 [vr ((some o))] w none res := by
  refine ev_met (n := 0) (by decide) rfl fun X => ?_
  unfold f_X10_init at h
  show mEv X M_X10_init 3 _ _ 0 [some (vr ((some o)))] [] w
  refine ev_aload_n (q := 1) dX10_init_0 rfl rfl ?_
  refine ev_obj (q := 4) dX10_init_1 rfl tw_48 tw_obji tw_objc (by decide) (Nat.le_of_ble_eq_true rfl) ?_
  refine ev_aload_n (q := 5) dX10_init_4 rfl rfl ?_
  replace h := Option.bind_eq_some_iff.mp h; obtain ⟨w1, hw1, h⟩ := h
  cases hw1
  refine ev_new (ci := 3) (fs := new_X3) tyX3 dX10_init_5 rfl rfl inm_X3 tyX3_ok tw_51 tw_52 tw_26 rfl new_X3_ok ?_
  refine ev_dup (q := 9) dX10_init_8 rfl rfl ?_
  replace h := Option.bind_eq_some_iff.mp h; obtain ⟨w2, hw2, h⟩ := h
  refine ev_invIN (M1 := M_X3_init) (as := []) dX10_init_9 rfl tw_53 cal_X3_init tw_54 rfl rfl (by decide) rfl rfl (Nat.le_of_ble_eq_true rfl) (met_X3_init w.length  (w ++ [.inl (3, new_X3)]) _ hw2) ?_
  replace h := Option.bind_eq_some_iff.mp h; obtain ⟨w3, hw3, h⟩ := h
  refine ev_pRF dX10_init_12 rfl mFit_o fp_X10_10 hw3 rfl ?_
  refine ev_aload_n (q := 16) dX10_init_15 rfl rfl ?_
  replace h := Option.bind_eq_some_iff.mp h; obtain ⟨w4, hw4, h⟩ := h
  cases hw4
  refine ev_new (ci := 5) (fs := new_X5) tyX5 dX10_init_16 rfl rfl inm_X5 tyX5_ok tw_68 tw_69 tw_27 rfl new_X5_ok ?_
  refine ev_dup (q := 20) dX10_init_19 rfl rfl ?_
  replace h := Option.bind_eq_some_iff.mp h; obtain ⟨w5, hw5, h⟩ := h
  refine ev_invIN (M1 := M_X5_init) (as := []) dX10_init_20 rfl tw_70 cal_X5_init tw_71 rfl rfl (by decide) rfl rfl (Nat.le_of_ble_eq_true rfl) (met_X5_init w3.length  (w3 ++ [.inl (5, new_X5)]) _ hw5) ?_
  replace h := Option.bind_eq_some_iff.mp h; obtain ⟨w6, hw6, h⟩ := h
  refine ev_pRF dX10_init_23 rfl mFit_o fp_X10_19 hw6 rfl ?_
  refine ev_aload_n (q := 27) dX10_init_26 rfl rfl ?_
  refine ev_iconst (q := 28) (v := (4 : Int32)) dX10_init_27 rfl (by decide) ?_
  replace h := Option.bind_eq_some_iff.mp h; obtain ⟨w7, hw7, h⟩ := h
  cases hw7
  refine ev_newq (N := 4) dX10_init_28 rfl tw_105 (by decide) (by decide) (by decide) ?_
  replace h := Option.bind_eq_some_iff.mp h; obtain ⟨w8, hw8, h⟩ := h
  refine ev_pRF dX10_init_31 rfl mFit_a fp_X10_25 hw8 rfl ?_
  refine ev_aload_n (q := 35) dX10_init_34 rfl rfl ?_
  replace h := Option.bind_eq_some_iff.mp h; obtain ⟨w9, hw9, h⟩ := h
  cases hw9
  refine ev_new (ci := 2) (fs := new_X2) tyX2 dX10_init_35 rfl rfl inm_X2 tyX2_ok tw_107 tw_108 tw_28 rfl new_X2_ok ?_
  refine ev_dup (q := 39) dX10_init_38 rfl rfl ?_
  replace h := Option.bind_eq_some_iff.mp h; obtain ⟨w10, hw10, h⟩ := h
  refine ev_invIN (M1 := M_X2_init) (as := []) dX10_init_39 rfl tw_109 cal_X2_init tw_110 rfl rfl (by decide) rfl rfl (Nat.le_of_ble_eq_true rfl) (met_X2_init w8.length  (w8 ++ [.inl (2, new_X2)]) _ hw10) ?_
  replace h := Option.bind_eq_some_iff.mp h; obtain ⟨w11, hw11, h⟩ := h
  refine ev_pRF dX10_init_42 rfl mFit_o fp_X10_32 hw11 rfl ?_
  refine ev_aload_n (q := 46) dX10_init_45 rfl rfl ?_
  replace h := Option.bind_eq_some_iff.mp h; obtain ⟨w12, hw12, h⟩ := h
  cases hw12
  refine ev_new (ci := 2) (fs := new_X2) tyX2 dX10_init_46 rfl rfl inm_X2 tyX2_ok tw_107 tw_108 tw_28 rfl new_X2_ok ?_
  refine ev_dup (q := 50) dX10_init_49 rfl rfl ?_
  replace h := Option.bind_eq_some_iff.mp h; obtain ⟨w13, hw13, h⟩ := h
  refine ev_invIN (M1 := M_X2_init) (as := []) dX10_init_50 rfl tw_109 cal_X2_init tw_110 rfl rfl (by decide) rfl rfl (Nat.le_of_ble_eq_true rfl) (met_X2_init w11.length  (w11 ++ [.inl (2, new_X2)]) _ hw13) ?_
  replace h := Option.bind_eq_some_iff.mp h; obtain ⟨w14, hw14, h⟩ := h
  refine ev_pRF dX10_init_53 rfl mFit_o fp_X10_36 hw14 rfl ?_
  refine ev_aload_n (q := 57) dX10_init_56 rfl rfl ?_
  replace h := Option.bind_eq_some_iff.mp h; obtain ⟨w15, hw15, h⟩ := h
  cases hw15
  refine ev_new (ci := 4) (fs := new_X4) tyX4 dX10_init_57 rfl rfl inm_X4 tyX4_ok tw_183 tw_184 tw_30 rfl new_X4_ok ?_
  refine ev_dup (q := 61) dX10_init_60 rfl rfl ?_
  replace h := Option.bind_eq_some_iff.mp h; obtain ⟨w16, hw16, h⟩ := h
  refine ev_invIN (M1 := M_X4_init) (as := []) dX10_init_61 rfl tw_185 cal_X4_init tw_186 rfl rfl (by decide) rfl rfl (Nat.le_of_ble_eq_true rfl) (met_X4_init w14.length  (w14 ++ [.inl (4, new_X4)]) _ hw16) ?_
  replace h := Option.bind_eq_some_iff.mp h; obtain ⟨w17, hw17, h⟩ := h
  refine ev_pRF dX10_init_64 rfl mFit_o fp_X10_42 hw17 rfl ?_
  refine ev_aload_n (q := 68) dX10_init_67 rfl rfl ?_
  refine ev_bipush (q := 70) (v := (36 : Int32)) dX10_init_68 rfl (by decide) ?_
  replace h := Option.bind_eq_some_iff.mp h; obtain ⟨w18, hw18, h⟩ := h
  cases hw18
  refine ev_newi (N := 36) dX10_init_70 rfl tw_67 (by decide) (by decide) (by decide) ?_
  replace h := Option.bind_eq_some_iff.mp h; obtain ⟨w19, hw19, h⟩ := h
  refine ev_pRF dX10_init_72 rfl mFit_a fp_X10_46 hw19 rfl ?_
  cases h
  exact ev_vret dX10_init_75 rfl
def f_X10_addChances_J70 (kc : Int32 → mW → Option (mW)) (o : Nat) (v1 : Option Nat) (v2 : Int32) (v3 : Int32) (v4 : Int32) (w : mW) : Option (mW) := kc (v4 + (1 : Int32)) w
set_option maxRecDepth 100000 in
set_option maxHeartbeats 4000000 in
theorem e_X10_addChances_J70 {X : mXs} {r : Option mV} {w' : mW} (P : (mW) → Prop) (o : Nat) (v1 : Option Nat) (v2 : Int32) (v3 : Int32) (v4 : Int32) (w : mW) (kc : Int32 → mW → Option (mW)) (hk : ∀ (u4 : Int32) (uw : mW) (e : mW), kc u4 uw = some e → P e → mEv X M_X10_addChances 3 r w' 10 [some (vr ((some o))), some (vr v1), some (vi v2), some (vi v3), some (vi u4), none] [] uw) (e : mW) (h : f_X10_addChances_J70 kc o v1 v2 v3 v4 w = some e) (hP : P e) : mEv X M_X10_addChances 3 r w' 70 [some (vr ((some o))), some (vr v1), some (vi v2), some (vi v3), some (vi v4), none] [] w := by
  unfold f_X10_addChances_J70 at h
  refine ev_iinc (q := 73) (v := v4 + (1 : Int32)) dX10_addChances_70 rfl (by decide) rfl (by rfl) ?_
  refine ev_goto (q := 10) dX10_addChances_73 (by decide) ?_
  exact ev_weak _ (mLe_some (mLe_some (mLe_some (mLe_some (mLe_some (mLe_none mLe_nil)))))) (hk (v4 + (1 : Int32)) w _ h hP)
def f_X10_addChances_L10 (o : Nat) (v1 : Option Nat) (v2 : Int32) (v3 : Int32) : Nat → Int32 → mW → Option (mW)
  | 0, _, _ => none
  | n + 1, v4, w => if (1 : Int32) < v4 then (some (w)) else (Option.bind (f_X10_cellAt ((v2 / (6 : Int32)) + v3) ((v2 - v2 / (6 : Int32) * (6 : Int32)) + v4) w) fun r1 => if r1 = (-1 : Int32) then (f_X10_addChances_J70 (f_X10_addChances_L10 o v1 v2 v3 n) o v1 v2 v3 v4 w) else (Option.bind (dv_spreads v1 v3 v4 w) fun r2 => if r2 = 0 then (f_X10_addChances_J70 (f_X10_addChances_L10 o v1 v2 v3 n) o v1 v2 v3 v4 w) else (Option.bind (gR w (some o) 10 6) fun r3 => Option.bind (gR w (some o) 10 6) fun r4 => Option.bind (f_X10_at r4 r1 w) fun r5 => Option.bind (f_X10_put r3 r1 (r5 + (1 : Int32)) w) fun w6 => f_X10_addChances_J70 (f_X10_addChances_L10 o v1 v2 v3 n) o v1 v2 v3 v4 w6)))
set_option maxRecDepth 100000 in
set_option maxHeartbeats 4000000 in
theorem e_X10_addChances_L10 {X : mXs} {r : Option mV} {w' : mW} (P : (mW) → Prop) (o : Nat) (v1 : Option Nat) (v2 : Int32) (v3 : Int32) (hexit : ∀ y, P y → mEv X M_X10_addChances 3 r w' 76 [some (vr ((some o))), some (vr v1), some (vi v2), some (vi v3), none, none] [] y) : ∀ (n : Nat) (v4 : Int32) (w : mW) (e : mW), f_X10_addChances_L10 o v1 v2 v3 n v4 w = some e → P e → mEv X M_X10_addChances 3 r w' 10 [some (vr ((some o))), some (vr v1), some (vi v2), some (vi v3), some (vi v4), none] [] w := by
  intro n
  induction n with
  | zero =>
    intro v4 w e h hP
    rw [f_X10_addChances_L10] at h
    cases h
  | succ n hk =>
    intro v4 w e h hP
    rw [f_X10_addChances_L10] at h
    refine ev_iload (q := 12) dX10_addChances_10 rfl rfl ?_
    refine ev_iconst (q := 13) (v := (1 : Int32)) dX10_addChances_12 rfl (by decide) ?_
    by_cases hc : (1 : Int32) < v4
    · rw [if_pos hc] at h
      refine ev_icmp_gt_t (q := 76) dX10_addChances_13 (by decide) hc ?_
      cases h
      exact ev_weak _ (mLe_some (mLe_some (mLe_some (mLe_some (mLe_none (mLe_none mLe_nil)))))) (hexit _ hP)
    · rw [if_neg hc] at h
      refine ev_icmp_gt_f (q := 16) (t0 := 76) dX10_addChances_13 (by decide) rfl hc ?_
      refine ev_iload_n (q := 17) dX10_addChances_16 rfl rfl ?_
      refine ev_bipush (q := 19) (v := (6 : Int32)) dX10_addChances_17 rfl (by decide) ?_
      refine ev_idiv (q := 20) dX10_addChances_19 rfl (by decide) ?_
      refine ev_iload_n (q := 21) dX10_addChances_20 rfl rfl ?_
      refine ev_iadd (q := 22) dX10_addChances_21 rfl ?_
      refine ev_iload_n (q := 23) dX10_addChances_22 rfl rfl ?_
      refine ev_bipush (q := 25) (v := (6 : Int32)) dX10_addChances_23 rfl (by decide) ?_
      refine ev_irem (q := 26) dX10_addChances_25 rfl (by decide) ?_
      refine ev_iload (q := 28) dX10_addChances_26 rfl rfl ?_
      refine ev_iadd (q := 29) dX10_addChances_28 rfl ?_
      replace h := Option.bind_eq_some_iff.mp h; obtain ⟨r1, hr1, h⟩ := h
      refine ev_invS (M1 := M_X10_cellAt) (as := [vi ((v2 / (6 : Int32)) + v3), vi ((v2 - v2 / (6 : Int32) * (6 : Int32)) + v4)]) dX10_addChances_29 rfl tw_469 cal_X10_cellAt tw_267 (by decide) rfl rfl (Nat.le_of_ble_eq_true rfl) (met_X10_cellAt ((v2 / (6 : Int32)) + v3) ((v2 - v2 / (6 : Int32) * (6 : Int32)) + v4) w _ hr1) ?_
      refine ev_istore (q := 34) dX10_addChances_32 rfl (by decide) ?_
      refine ev_iload (q := 36) dX10_addChances_34 rfl rfl ?_
      refine ev_iconst (q := 37) (v := (-1 : Int32)) dX10_addChances_36 rfl (by decide) ?_
      by_cases hc : r1 = (-1 : Int32)
      · rw [if_pos hc] at h
        refine ev_icmp_eq_t (q := 70) dX10_addChances_37 (by decide) hc ?_
        exact ev_weak _ (mLe_some (mLe_some (mLe_some (mLe_some (mLe_some (mLe_none mLe_nil)))))) (e_X10_addChances_J70 P o v1 v2 v3 v4 w _ hk  _ h hP)
      · rw [if_neg hc] at h
        refine ev_icmp_eq_f (q := 40) (t0 := 70) dX10_addChances_37 (by decide) rfl hc ?_
        refine ev_aload_n (q := 41) dX10_addChances_40 rfl rfl ?_
        refine ev_iload_n (q := 42) dX10_addChances_41 rfl rfl ?_
        refine ev_iload (q := 44) dX10_addChances_42 rfl rfl ?_
        replace h := Option.bind_eq_some_iff.mp h; obtain ⟨r2, hr2, h⟩ := h
        refine ev_dv_spreads dX10_addChances_44 rfl tw_474 (by decide) (Nat.le_of_ble_eq_true rfl) hr2 ?_
        by_cases hc : r2 = 0
        · rw [if_pos hc] at h
          refine ev_if_eq_t (q := 70) dX10_addChances_47 (by decide) hc ?_
          exact ev_weak _ (mLe_some (mLe_some (mLe_some (mLe_some (mLe_some (mLe_none mLe_nil)))))) (e_X10_addChances_J70 P o v1 v2 v3 v4 w _ hk  _ h hP)
        · rw [if_neg hc] at h
          refine ev_if_eq_f (q := 50) (t0 := 70) dX10_addChances_47 (by decide) rfl hc ?_
          refine ev_aload_n (q := 51) dX10_addChances_50 rfl rfl ?_
          replace h := Option.bind_eq_some_iff.mp h; obtain ⟨r3, hr3, h⟩ := h
          refine ev_gR dX10_addChances_51 fl_X10_46 hr3 rfl ?_
          refine ev_iload (q := 56) dX10_addChances_54 rfl rfl ?_
          refine ev_aload_n (q := 57) dX10_addChances_56 rfl rfl ?_
          replace h := Option.bind_eq_some_iff.mp h; obtain ⟨r4, hr4, h⟩ := h
          refine ev_gR dX10_addChances_57 fl_X10_46 hr4 rfl ?_
          refine ev_iload (q := 62) dX10_addChances_60 rfl rfl ?_
          replace h := Option.bind_eq_some_iff.mp h; obtain ⟨r5, hr5, h⟩ := h
          refine ev_invS (M1 := M_X10_at) (as := [vr r4, vi r1]) dX10_addChances_62 rfl tw_406 cal_X10_at tw_252 (by decide) rfl rfl (Nat.le_of_ble_eq_true rfl) (met_X10_at r4 r1 w _ hr5) ?_
          refine ev_iconst (q := 66) (v := (1 : Int32)) dX10_addChances_65 rfl (by decide) ?_
          refine ev_iadd (q := 67) dX10_addChances_66 rfl ?_
          replace h := Option.bind_eq_some_iff.mp h; obtain ⟨w6, hw6, h⟩ := h
          refine ev_invS (M1 := M_X10_put) (as := [vr r3, vi r1, vi (r5 + (1 : Int32))]) dX10_addChances_67 rfl tw_402 cal_X10_put tw_270 (by decide) rfl rfl (Nat.le_of_ble_eq_true rfl) (met_X10_put r3 r1 (r5 + (1 : Int32)) w _ hw6) ?_
          exact ev_weak _ (mLe_some (mLe_some (mLe_some (mLe_some (mLe_some (mLe_none mLe_nil)))))) (e_X10_addChances_J70 P o v1 v2 v3 v4 w6 _ hk  _ h hP)
def f_X10_addChances_L2 (o : Nat) (v1 : Option Nat) (v2 : Int32) : Nat → Int32 → mW → Option (mW)
  | 0, _, _ => none
  | n + 1, v3, w => if (1 : Int32) < v3 then (some (w)) else (Option.bind (f_X10_addChances_L10 o v1 v2 v3 mFuel (-1 : Int32) w) fun e7 => (f_X10_addChances_L2 o v1 v2 n) (v3 + (1 : Int32)) e7)
set_option maxRecDepth 100000 in
set_option maxHeartbeats 4000000 in
theorem e_X10_addChances_L2 {X : mXs} {r : Option mV} {w' : mW} (P : (mW) → Prop) (o : Nat) (v1 : Option Nat) (v2 : Int32) (hexit : ∀ y, P y → mEv X M_X10_addChances 3 r w' 82 [none, none, none, none, none, none] [] y) : ∀ (n : Nat) (v3 : Int32) (w : mW) (e : mW), f_X10_addChances_L2 o v1 v2 n v3 w = some e → P e → mEv X M_X10_addChances 3 r w' 2 [some (vr ((some o))), some (vr v1), some (vi v2), some (vi v3), none, none] [] w := by
  intro n
  induction n with
  | zero =>
    intro v3 w e h hP
    rw [f_X10_addChances_L2] at h
    cases h
  | succ n hk =>
    intro v3 w e h hP
    rw [f_X10_addChances_L2] at h
    refine ev_iload_n (q := 3) dX10_addChances_2 rfl rfl ?_
    refine ev_iconst (q := 4) (v := (1 : Int32)) dX10_addChances_3 rfl (by decide) ?_
    by_cases hc : (1 : Int32) < v3
    · rw [if_pos hc] at h
      refine ev_icmp_gt_t (q := 82) dX10_addChances_4 (by decide) hc ?_
      cases h
      exact ev_weak _ (mLe_none (mLe_none (mLe_none (mLe_none (mLe_none (mLe_none mLe_nil)))))) (hexit _ hP)
    · rw [if_neg hc] at h
      refine ev_icmp_gt_f (q := 7) (t0 := 82) dX10_addChances_4 (by decide) rfl hc ?_
      refine ev_iconst (q := 8) (v := (-1 : Int32)) dX10_addChances_7 rfl (by decide) ?_
      refine ev_istore (q := 10) dX10_addChances_8 rfl (by decide) ?_
      replace h := Option.bind_eq_some_iff.mp h; obtain ⟨e7, he7, h⟩ := h
      refine ev_weak _ (mLe_some (mLe_some (mLe_some (mLe_some (mLe_some (mLe_none mLe_nil)))))) (e_X10_addChances_L10 (fun z => e7 = z) o v1 v2 v3 (fun e7q hq => ?_) mFuel (-1 : Int32) w _ he7 rfl)
      subst hq
      refine ev_iinc (q := 79) (v := v3 + (1 : Int32)) dX10_addChances_76 rfl (by decide) rfl (by rfl) ?_
      refine ev_goto (q := 2) dX10_addChances_79 (by decide) ?_
      exact ev_weak _ (mLe_some (mLe_some (mLe_some (mLe_some (mLe_none (mLe_none mLe_nil)))))) (hk (v3 + (1 : Int32)) e7 _ h hP)
def f_X10_addChances (o : Nat) (v1 : Option Nat) (v2 : Int32) (w : mW) : Option (mW) := Option.bind (f_X10_addChances_L2 o v1 v2 mFuel (-1 : Int32) w) fun e8 => some (e8)
set_option maxRecDepth 100000 in
set_option maxHeartbeats 4000000 in
theorem met_X10_addChances (o : Nat) (v1 : Option Nat) (v2 : Int32) (w : mW) (res : mW) (h : f_X10_addChances o v1 v2 w = some res) : mMet M_X10_addChances 3 [vr ((some o)), vr v1, vi v2] w none res := by
  refine ev_met (n := 3) (by decide) rfl fun X => ?_
  unfold f_X10_addChances at h
  show mEv X M_X10_addChances 3 _ _ 0 [some (vr ((some o))), some (vr v1), some (vi v2), none, none, none] [] w
  refine ev_iconst (q := 1) (v := (-1 : Int32)) dX10_addChances_0 rfl (by decide) ?_
  refine ev_istore_n (q := 2) dX10_addChances_1 rfl (by decide) ?_
  replace h := Option.bind_eq_some_iff.mp h; obtain ⟨e8, he8, h⟩ := h
  refine ev_weak _ (mLe_some (mLe_some (mLe_some (mLe_some (mLe_none (mLe_none mLe_nil)))))) (e_X10_addChances_L2 (fun z => e8 = z) o v1 v2 (fun e8q hq => ?_) mFuel (-1 : Int32) w _ he8 rfl)
  subst hq
  cases h
  exact ev_vret dX10_addChances_82 rfl
def f_X10_crowdUnder_J97 (kc : Int32 → Int32 → Option (Int32)) (o : Nat) (v4 : Option Nat) (v5 : Int32) (v6 : Int32) (v7 : Int32) (w : mW) : Option (Int32) := kc v6 (v7 + (1 : Int32))
set_option maxRecDepth 100000 in
set_option maxHeartbeats 4000000 in
theorem e_X10_crowdUnder_J97 {X : mXs} {r : Option mV} {w' : mW} (P : (Int32) → Prop) (o : Nat) (v4 : Option Nat) (v5 : Int32) (v6 : Int32) (v7 : Int32) (w : mW) (kc : Int32 → Int32 → Option (Int32)) (hk : ∀ (u6 : Int32) (u7 : Int32) (e : Int32), kc u6 u7 = some e → P e → mEv X M_X10_crowdUnder 3 r w' 35 [some (vr ((some o))), none, none, none, some (vr v4), some (vi v5), some (vi u6), some (vi u7), none] [] w) (e : Int32) (h : f_X10_crowdUnder_J97 kc o v4 v5 v6 v7 w = some e) (hP : P e) : mEv X M_X10_crowdUnder 3 r w' 97 [some (vr ((some o))), none, none, none, some (vr v4), some (vi v5), some (vi v6), some (vi v7), none] [] w := by
  unfold f_X10_crowdUnder_J97 at h
  refine ev_iinc (q := 100) (v := v7 + (1 : Int32)) dX10_crowdUnder_97 rfl (by decide) rfl (by rfl) ?_
  refine ev_goto (q := 35) dX10_crowdUnder_100 (by decide) ?_
  exact ev_weak _ (mLe_some (mLe_none (mLe_none (mLe_none (mLe_some (mLe_some (mLe_some (mLe_some (mLe_none mLe_nil))))))))) (hk v6 (v7 + (1 : Int32)) _ h hP)
def f_X10_crowdUnder_L35 (o : Nat) (v4 : Option Nat) (v5 : Int32) (w : mW) : Nat → Int32 → Int32 → Option (Int32)
  | 0, _, _ => none
  | n + 1, v6, v7 => Option.bind (gI w (some o) 10 7) fun r1 => if r1 ≤ v7 then (some (v6)) else (Option.bind (gR w (some o) 10 3) fun r2 => Option.bind (gR w r2 2 0) fun r3 => Option.bind (f_X10_at r3 v7 w) fun r4 => Option.bind (dv_spreads v4 ((r4 / (6 : Int32)) - (v5 / (6 : Int32))) ((r4 - r4 / (6 : Int32) * (6 : Int32)) - (v5 - v5 / (6 : Int32) * (6 : Int32))) w) fun r5 => if r5 = 0 then (f_X10_crowdUnder_J97 (f_X10_crowdUnder_L35 o v4 v5 w n) o v4 v5 v6 v7 w) else (f_X10_crowdUnder_J97 (f_X10_crowdUnder_L35 o v4 v5 w n) o v4 v5 (v6 ||| ((1 : Int32) <<< (v7 &&& 31))) v7 w))
set_option maxRecDepth 100000 in
set_option maxHeartbeats 4000000 in
theorem e_X10_crowdUnder_L35 {X : mXs} {r : Option mV} {w' : mW} (P : (Int32) → Prop) (o : Nat) (v4 : Option Nat) (v5 : Int32) (w : mW) (hexit : ∀ y, P y → mEv X M_X10_crowdUnder 3 r w' 103 [none, none, none, none, none, none, some (vi y), none, none] [] w) : ∀ (n : Nat) (v6 : Int32) (v7 : Int32) (e : Int32), f_X10_crowdUnder_L35 o v4 v5 w n v6 v7 = some e → P e → mEv X M_X10_crowdUnder 3 r w' 35 [some (vr ((some o))), none, none, none, some (vr v4), some (vi v5), some (vi v6), some (vi v7), none] [] w := by
  intro n
  induction n with
  | zero =>
    intro v6 v7 e h hP
    rw [f_X10_crowdUnder_L35] at h
    cases h
  | succ n hk =>
    intro v6 v7 e h hP
    rw [f_X10_crowdUnder_L35] at h
    refine ev_iload (q := 37) dX10_crowdUnder_35 rfl rfl ?_
    refine ev_aload_n (q := 38) dX10_crowdUnder_37 rfl rfl ?_
    replace h := Option.bind_eq_some_iff.mp h; obtain ⟨r1, hr1, h⟩ := h
    refine ev_gI dX10_crowdUnder_38 fl_X10_72 hr1 rfl ?_
    by_cases hc : r1 ≤ v7
    · rw [if_pos hc] at h
      refine ev_icmp_ge_t (q := 103) dX10_crowdUnder_41 (by decide) hc ?_
      cases h
      exact ev_weak _ (mLe_none (mLe_none (mLe_none (mLe_none (mLe_none (mLe_none (mLe_some (mLe_none (mLe_none mLe_nil))))))))) (hexit _ hP)
    · rw [if_neg hc] at h
      refine ev_icmp_ge_f (q := 44) (t0 := 103) dX10_crowdUnder_41 (by decide) rfl hc ?_
      refine ev_aload_n (q := 45) dX10_crowdUnder_44 rfl rfl ?_
      replace h := Option.bind_eq_some_iff.mp h; obtain ⟨r2, hr2, h⟩ := h
      refine ev_gR dX10_crowdUnder_45 fl_X10_32 hr2 rfl ?_
      replace h := Option.bind_eq_some_iff.mp h; obtain ⟨r3, hr3, h⟩ := h
      refine ev_gR dX10_crowdUnder_48 fl_X10_79 hr3 rfl ?_
      refine ev_iload (q := 53) dX10_crowdUnder_51 rfl rfl ?_
      replace h := Option.bind_eq_some_iff.mp h; obtain ⟨r4, hr4, h⟩ := h
      refine ev_invS (M1 := M_X10_at) (as := [vr r3, vi v7]) dX10_crowdUnder_53 rfl tw_406 cal_X10_at tw_252 (by decide) rfl rfl (Nat.le_of_ble_eq_true rfl) (met_X10_at r3 v7 w _ hr4) ?_
      refine ev_istore (q := 58) dX10_crowdUnder_56 rfl (by decide) ?_
      refine ev_aload (q := 60) dX10_crowdUnder_58 rfl rfl ?_
      refine ev_iload (q := 62) dX10_crowdUnder_60 rfl rfl ?_
      refine ev_bipush (q := 64) (v := (6 : Int32)) dX10_crowdUnder_62 rfl (by decide) ?_
      refine ev_idiv (q := 65) dX10_crowdUnder_64 rfl (by decide) ?_
      refine ev_iload (q := 67) dX10_crowdUnder_65 rfl rfl ?_
      refine ev_bipush (q := 69) (v := (6 : Int32)) dX10_crowdUnder_67 rfl (by decide) ?_
      refine ev_idiv (q := 70) dX10_crowdUnder_69 rfl (by decide) ?_
      refine ev_isub (q := 71) dX10_crowdUnder_70 rfl ?_
      refine ev_iload (q := 73) dX10_crowdUnder_71 rfl rfl ?_
      refine ev_bipush (q := 75) (v := (6 : Int32)) dX10_crowdUnder_73 rfl (by decide) ?_
      refine ev_irem (q := 76) dX10_crowdUnder_75 rfl (by decide) ?_
      refine ev_iload (q := 78) dX10_crowdUnder_76 rfl rfl ?_
      refine ev_bipush (q := 80) (v := (6 : Int32)) dX10_crowdUnder_78 rfl (by decide) ?_
      refine ev_irem (q := 81) dX10_crowdUnder_80 rfl (by decide) ?_
      refine ev_isub (q := 82) dX10_crowdUnder_81 rfl ?_
      replace h := Option.bind_eq_some_iff.mp h; obtain ⟨r5, hr5, h⟩ := h
      refine ev_dv_spreads dX10_crowdUnder_82 rfl tw_474 (by decide) (Nat.le_of_ble_eq_true rfl) hr5 ?_
      by_cases hc : r5 = 0
      · rw [if_pos hc] at h
        refine ev_if_eq_t (q := 97) dX10_crowdUnder_85 (by decide) hc ?_
        exact ev_weak _ (mLe_some (mLe_none (mLe_none (mLe_none (mLe_some (mLe_some (mLe_some (mLe_some (mLe_none mLe_nil))))))))) (e_X10_crowdUnder_J97 P o v4 v5 v6 v7 w _ hk  _ h hP)
      · rw [if_neg hc] at h
        refine ev_if_eq_f (q := 88) (t0 := 97) dX10_crowdUnder_85 (by decide) rfl hc ?_
        refine ev_iload (q := 90) dX10_crowdUnder_88 rfl rfl ?_
        refine ev_iconst (q := 91) (v := (1 : Int32)) dX10_crowdUnder_90 rfl (by decide) ?_
        refine ev_iload (q := 93) dX10_crowdUnder_91 rfl rfl ?_
        refine ev_ishl (q := 94) dX10_crowdUnder_93 rfl ?_
        refine ev_ior (q := 95) dX10_crowdUnder_94 rfl ?_
        refine ev_istore (q := 97) dX10_crowdUnder_95 rfl (by decide) ?_
        exact ev_weak _ (mLe_some (mLe_none (mLe_none (mLe_none (mLe_some (mLe_some (mLe_some (mLe_some (mLe_none mLe_nil))))))))) (e_X10_crowdUnder_J97 P o v4 v5 (v6 ||| ((1 : Int32) <<< (v7 &&& 31))) v7 w _ hk  _ h hP)
def f_X10_crowdUnder_J27 (w : mW) : Option (Int32) := some ((0 : Int32))
set_option maxRecDepth 100000 in
set_option maxHeartbeats 4000000 in
theorem e_X10_crowdUnder_J27 {X : mXs} (w : mW) (res : Int32) (h : f_X10_crowdUnder_J27 w = some res) : mEv X M_X10_crowdUnder 3 (some (vi res)) w 27 [none, none, none, none, none, none, none, none, none] [] w := by
  unfold f_X10_crowdUnder_J27 at h
  refine ev_iconst (q := 28) (v := (0 : Int32)) dX10_crowdUnder_27 rfl (by decide) ?_
  cases h
  exact ev_iret dX10_crowdUnder_28 rfl rfl
def f_X10_crowdUnder (o : Nat) (v1 : Int32) (v2 : Int32) (v3 : Int32) (w : mW) : Option (Int32) := Option.bind (kO w (some o) 10) fun _ => Option.bind (f_X10_tosserAt o v1 w) fun r6 => Option.bind (kO w (some o) 10) fun _ => Option.bind (f_X10_landing o v1 v2 v3 w) fun r8 => oC r6 (f_X10_crowdUnder_J27 w) (fun a10 => if r8 = (-1 : Int32) then (f_X10_crowdUnder_J27 w) else (Option.bind (f_X10_crowdUnder_L35 o (some a10) r8 w mFuel (0 : Int32) (0 : Int32)) fun e11 => some (e11)))
set_option maxRecDepth 100000 in
set_option maxHeartbeats 4000000 in
theorem met_X10_crowdUnder (o : Nat) (v1 : Int32) (v2 : Int32) (v3 : Int32) (w : mW) (res : Int32) (h : f_X10_crowdUnder o v1 v2 v3 w = some res) : mMet M_X10_crowdUnder 3 [vr ((some o)), vi v1, vi v2, vi v3] w (some (vi res)) w := by
  refine ev_met (n := 5) (by decide) rfl fun X => ?_
  unfold f_X10_crowdUnder at h
  show mEv X M_X10_crowdUnder 3 _ _ 0 [some (vr ((some o))), some (vi v1), some (vi v2), some (vi v3), none, none, none, none, none] [] w
  refine ev_aload_n (q := 1) dX10_crowdUnder_0 rfl rfl ?_
  refine ev_iload_n (q := 2) dX10_crowdUnder_1 rfl rfl ?_
  replace h := Option.bind_eq_some_iff.mp h; obtain ⟨q7, hq7, h⟩ := h
  obtain ⟨hxq7, fsq7, hkq7⟩ := kO_spec hq7
  cases hxq7
  replace h := Option.bind_eq_some_iff.mp h; obtain ⟨r6, hr6, h⟩ := h
  refine ev_invV (M1 := M_X10_tosserAt) (as := [vi v1]) (fs := fsq7) (ci := 10) dX10_crowdUnder_2 rfl tw_461 cal_X10_tosserAt tw_463 tw_12 (by decide) rfl rfl (Nat.le_of_ble_eq_true rfl) hkq7 rfl (met_X10_tosserAt o v1 w _ hr6) ?_
  refine ev_astore (q := 7) dX10_crowdUnder_5 rfl (by decide) ?_
  refine ev_aload_n (q := 8) dX10_crowdUnder_7 rfl rfl ?_
  refine ev_iload_n (q := 9) dX10_crowdUnder_8 rfl rfl ?_
  refine ev_iload_n (q := 10) dX10_crowdUnder_9 rfl rfl ?_
  refine ev_iload_n (q := 11) dX10_crowdUnder_10 rfl rfl ?_
  replace h := Option.bind_eq_some_iff.mp h; obtain ⟨q9, hq9, h⟩ := h
  obtain ⟨hxq9, fsq9, hkq9⟩ := kO_spec hq9
  cases hxq9
  replace h := Option.bind_eq_some_iff.mp h; obtain ⟨r8, hr8, h⟩ := h
  refine ev_invV (M1 := M_X10_landing) (as := [vi v1, vi v2, vi v3]) (fs := fsq9) (ci := 10) dX10_crowdUnder_11 rfl tw_465 cal_X10_landing tw_467 tw_13 (by decide) rfl rfl (Nat.le_of_ble_eq_true rfl) hkq9 rfl (met_X10_landing o v1 v2 v3 w _ hr8) ?_
  refine ev_istore (q := 16) dX10_crowdUnder_14 rfl (by decide) ?_
  refine ev_aload (q := 18) dX10_crowdUnder_16 rfl rfl ?_
  rcases r6 with _ | a10
  · dsimp only [oC] at h
    refine ev_ifnull_t (q := 27) dX10_crowdUnder_18 (by decide) ?_
    exact ev_weak _ (mLe_none (mLe_none (mLe_none (mLe_none (mLe_none (mLe_none (mLe_none (mLe_none (mLe_none mLe_nil))))))))) (e_X10_crowdUnder_J27 w _ h)
  · dsimp only [oC] at h
    refine ev_ifnull_f (q := 21) dX10_crowdUnder_18 rfl ?_
    refine ev_iload (q := 23) dX10_crowdUnder_21 rfl rfl ?_
    refine ev_iconst (q := 24) (v := (-1 : Int32)) dX10_crowdUnder_23 rfl (by decide) ?_
    by_cases hc : r8 = (-1 : Int32)
    · rw [if_pos hc] at h
      refine ev_icmp_ne_f (q := 27) (t0 := 29) dX10_crowdUnder_24 (by decide) rfl hc ?_
      exact ev_weak _ (mLe_none (mLe_none (mLe_none (mLe_none (mLe_none (mLe_none (mLe_none (mLe_none (mLe_none mLe_nil))))))))) (e_X10_crowdUnder_J27 w _ h)
    · rw [if_neg hc] at h
      refine ev_icmp_ne_t (q := 29) dX10_crowdUnder_24 (by decide) hc ?_
      refine ev_iconst (q := 30) (v := (0 : Int32)) dX10_crowdUnder_29 rfl (by decide) ?_
      refine ev_istore (q := 32) dX10_crowdUnder_30 rfl (by decide) ?_
      refine ev_iconst (q := 33) (v := (0 : Int32)) dX10_crowdUnder_32 rfl (by decide) ?_
      refine ev_istore (q := 35) dX10_crowdUnder_33 rfl (by decide) ?_
      replace h := Option.bind_eq_some_iff.mp h; obtain ⟨e11, he11, h⟩ := h
      refine ev_weak _ (mLe_some (mLe_none (mLe_none (mLe_none (mLe_some (mLe_some (mLe_some (mLe_some (mLe_none mLe_nil))))))))) (e_X10_crowdUnder_L35 (fun z => e11 = z) o (some a10) r8 w (fun e11q hq => ?_) mFuel (0 : Int32) (0 : Int32) _ he11 rfl)
      subst hq
      refine ev_iload (q := 105) dX10_crowdUnder_103 rfl rfl ?_
      cases h
      exact ev_iret dX10_crowdUnder_105 rfl rfl
