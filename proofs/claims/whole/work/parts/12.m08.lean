def f_X10_freshOf (o : Nat) (v1 : Int32) (v2 : Int32) (w : mW) : Option (Int32) := Option.bind (gR w (some o) 10 3) fun r1 => Option.bind (gI w r1 2 8) fun r2 => Option.bind (kO w (some o) 10) fun _ => Option.bind (f_X10_crowdUnder o v1 v2 r2 w) fun r3 => Option.bind (gR w (some o) 10 3) fun r5 => Option.bind (gI w r5 2 7) fun r6 => Option.bind (f_J6_bitCount_0f7a4 (r3 &&& (r6 ^^^ (-1 : Int32))) w) fun r7 => some (r7)
set_option maxRecDepth 100000 in
set_option maxHeartbeats 4000000 in
theorem met_X10_freshOf (o : Nat) (v1 : Int32) (v2 : Int32) (w : mW) (res : Int32) (h : f_X10_freshOf o v1 v2 w = some res) : mMet M_X10_freshOf 4 [vr ((some o)), vi v1, vi v2] w (some (vi res)) w := by
  refine ev_met (n := 0) (by decide) rfl fun X => ?_
  unfold f_X10_freshOf at h
  show mEv X M_X10_freshOf 4 _ _ 0 [some (vr ((some o))), some (vi v1), some (vi v2)] [] w
  refine ev_aload_n (q := 1) dX10_freshOf_0 rfl rfl ?_
  refine ev_iload_n (q := 2) dX10_freshOf_1 rfl rfl ?_
  refine ev_iload_n (q := 3) dX10_freshOf_2 rfl rfl ?_
  refine ev_aload_n (q := 4) dX10_freshOf_3 rfl rfl ?_
  replace h := Option.bind_eq_some_iff.mp h; obtain ⟨r1, hr1, h⟩ := h
  refine ev_gR dX10_freshOf_4 fl_X10_32 hr1 rfl ?_
  replace h := Option.bind_eq_some_iff.mp h; obtain ⟨r2, hr2, h⟩ := h
  refine ev_gI dX10_freshOf_7 fl_X10_146 hr2 rfl ?_
  replace h := Option.bind_eq_some_iff.mp h; obtain ⟨q4, hq4, h⟩ := h
  obtain ⟨hxq4, fsq4, hkq4⟩ := kO_spec hq4
  cases hxq4
  replace h := Option.bind_eq_some_iff.mp h; obtain ⟨r3, hr3, h⟩ := h
  refine ev_invV (M1 := M_X10_crowdUnder) (as := [vi v1, vi v2, vi r2]) (fs := fsq4) (ci := 10) dX10_freshOf_10 rfl tw_602 cal_X10_crowdUnder tw_604 tw_18 (by decide) rfl rfl (Nat.le_of_ble_eq_true rfl) hkq4 rfl (met_X10_crowdUnder o v1 v2 r2 w _ hr3) ?_
  refine ev_aload_n (q := 14) dX10_freshOf_13 rfl rfl ?_
  replace h := Option.bind_eq_some_iff.mp h; obtain ⟨r5, hr5, h⟩ := h
  refine ev_gR dX10_freshOf_14 fl_X10_32 hr5 rfl ?_
  replace h := Option.bind_eq_some_iff.mp h; obtain ⟨r6, hr6, h⟩ := h
  refine ev_gI dX10_freshOf_17 fl_X10_86 hr6 rfl ?_
  refine ev_iconst (q := 21) (v := (-1 : Int32)) dX10_freshOf_20 rfl (by decide) ?_
  refine ev_ixor (q := 22) dX10_freshOf_21 rfl ?_
  refine ev_iand (q := 23) dX10_freshOf_22 rfl ?_
  replace h := Option.bind_eq_some_iff.mp h; obtain ⟨r7, hr7, h⟩ := h
  refine ev_invS (M1 := M_J6_bitCount_0f7a4) (as := [vi (r3 &&& (r6 ^^^ (-1 : Int32)))]) dX10_freshOf_23 rfl tw_606 cal_J6_bitCount_0f7a4 tw_607 (by decide) rfl rfl (Nat.le_of_ble_eq_true rfl) (met_J6_bitCount_0f7a4 (r3 &&& (r6 ^^^ (-1 : Int32))) w _ hr7) ?_
  cases h
  exact ev_iret dX10_freshOf_26 rfl rfl
def f_X10_image (o : Nat) (w : mW) : Option (Int32 × mW) := Option.bind (kO w (some o) 10) fun _ => Option.bind (f_X10_hasPort o  w) fun r1 => if r1 = 0 then (some (((-103 : Int32), w))) else (Option.bind (gR w (some o) 10 4) fun r3 => Option.bind (gR w (some o) 10 3) fun r4 => Option.bind (kO w r3 2) fun q6 => Option.bind (f_X2_takeFrom q6 r4 w) fun w5 => Option.bind (pZ w5 (some o) 10 10 (1 : Int32)) fun w7 => Option.bind (gR w7 (some o) 10 3) fun r8 => Option.bind (gI w7 r8 2 10) fun r9 => some ((r9, w7)))
set_option maxRecDepth 100000 in
set_option maxHeartbeats 4000000 in
theorem met_X10_image (o : Nat) (w : mW) (res : Int32 × mW) (h : f_X10_image o w = some res) : mMet M_X10_image 4 [vr ((some o))] w (some (vi res.1)) res.2 := by
  refine ev_met (n := 0) (by decide) rfl fun X => ?_
  unfold f_X10_image at h
  show mEv X M_X10_image 4 _ _ 0 [some (vr ((some o)))] [] w
  refine ev_aload_n (q := 1) dX10_image_0 rfl rfl ?_
  replace h := Option.bind_eq_some_iff.mp h; obtain ⟨q2, hq2, h⟩ := h
  obtain ⟨hxq2, fsq2, hkq2⟩ := kO_spec hq2
  cases hxq2
  replace h := Option.bind_eq_some_iff.mp h; obtain ⟨r1, hr1, h⟩ := h
  refine ev_invV (M1 := M_X10_hasPort) (as := []) (fs := fsq2) (ci := 10) dX10_image_1 rfl tw_654 cal_X10_hasPort tw_656 tw_22 (by decide) rfl rfl (Nat.le_of_ble_eq_true rfl) hkq2 rfl (met_X10_hasPort o  w _ hr1) ?_
  by_cases hc : r1 = 0
  · rw [if_pos hc] at h
    refine ev_if_ne_f (q := 7) (t0 := 10) dX10_image_4 (by decide) rfl hc ?_
    refine ev_bipush (q := 9) (v := (-103 : Int32)) dX10_image_7 rfl (by decide) ?_
    cases h
    exact ev_iret dX10_image_9 rfl rfl
  · rw [if_neg hc] at h
    refine ev_if_ne_t (q := 10) dX10_image_4 (by decide) hc ?_
    refine ev_aload_n (q := 11) dX10_image_10 rfl rfl ?_
    replace h := Option.bind_eq_some_iff.mp h; obtain ⟨r3, hr3, h⟩ := h
    refine ev_gR dX10_image_11 fl_X10_36 hr3 rfl ?_
    refine ev_aload_n (q := 15) dX10_image_14 rfl rfl ?_
    replace h := Option.bind_eq_some_iff.mp h; obtain ⟨r4, hr4, h⟩ := h
    refine ev_gR dX10_image_15 fl_X10_32 hr4 rfl ?_
    replace h := Option.bind_eq_some_iff.mp h; obtain ⟨q6, hq6, h⟩ := h
    obtain ⟨hxq6, fsq6, hkq6⟩ := kO_spec hq6
    subst hxq6
    replace h := Option.bind_eq_some_iff.mp h; obtain ⟨w5, hw5, h⟩ := h
    refine ev_invV (M1 := M_X2_takeFrom) (as := [vr r4]) (fs := fsq6) (ci := 2) dX10_image_18 rfl tw_785 cal_X2_takeFrom tw_786 tw_787 (by decide) rfl rfl (Nat.le_of_ble_eq_true rfl) hkq6 rfl (met_X2_takeFrom q6 r4 w _ hw5) ?_
    refine ev_aload_n (q := 22) dX10_image_21 rfl rfl ?_
    refine ev_iconst (q := 23) (v := (1 : Int32)) dX10_image_22 rfl (by decide) ?_
    replace h := Option.bind_eq_some_iff.mp h; obtain ⟨w7, hw7, h⟩ := h
    refine ev_pZ dX10_image_23 fp_X10_223 hw7 rfl ?_
    refine ev_aload_n (q := 27) dX10_image_26 rfl rfl ?_
    replace h := Option.bind_eq_some_iff.mp h; obtain ⟨r8, hr8, h⟩ := h
    refine ev_gR dX10_image_27 fl_X10_32 hr8 rfl ?_
    replace h := Option.bind_eq_some_iff.mp h; obtain ⟨r9, hr9, h⟩ := h
    refine ev_gI dX10_image_30 fl_X10_176 hr9 rfl ?_
    cases h
    exact ev_iret dX10_image_33 rfl rfl
def f_X10_odds_L26 (o : Nat) (v1 : Int32) (v2 : Int32) (v3 : Int32) (w : mW) : Nat → Int32 → Int32 → Option (Int32)
  | 0, _, _ => none
  | n + 1, v4, v5 => if (1 : Int32) < v5 then (some (v4)) else (Option.bind (kO w (some o) 10) fun _ => Option.bind (f_X10_crowdUnder o v2 v3 v5 w) fun r1 => (f_X10_odds_L26 o v1 v2 v3 w n) (v4 + ((r1 >>> (v1 &&& 31)) &&& (1 : Int32))) (v5 + (1 : Int32)))
set_option maxRecDepth 100000 in
set_option maxHeartbeats 4000000 in
theorem e_X10_odds_L26 {X : mXs} {r : Option mV} {w' : mW} (P : (Int32) → Prop) (o : Nat) (v1 : Int32) (v2 : Int32) (v3 : Int32) (w : mW) (hexit : ∀ y, P y → mEv X M_X10_odds 4 r w' 55 [none, none, none, none, some (vi y), none] [] w) : ∀ (n : Nat) (v4 : Int32) (v5 : Int32) (e : Int32), f_X10_odds_L26 o v1 v2 v3 w n v4 v5 = some e → P e → mEv X M_X10_odds 4 r w' 26 [some (vr ((some o))), some (vi v1), some (vi v2), some (vi v3), some (vi v4), some (vi v5)] [] w := by
  intro n
  induction n with
  | zero =>
    intro v4 v5 e h hP
    rw [f_X10_odds_L26] at h
    cases h
  | succ n hk =>
    intro v4 v5 e h hP
    rw [f_X10_odds_L26] at h
    refine ev_iload (q := 28) dX10_odds_26 rfl rfl ?_
    refine ev_iconst (q := 29) (v := (1 : Int32)) dX10_odds_28 rfl (by decide) ?_
    by_cases hc : (1 : Int32) < v5
    · rw [if_pos hc] at h
      refine ev_icmp_gt_t (q := 55) dX10_odds_29 (by decide) hc ?_
      cases h
      exact ev_weak _ (mLe_none (mLe_none (mLe_none (mLe_none (mLe_some (mLe_none mLe_nil)))))) (hexit _ hP)
    · rw [if_neg hc] at h
      refine ev_icmp_gt_f (q := 32) (t0 := 55) dX10_odds_29 (by decide) rfl hc ?_
      refine ev_iload (q := 34) dX10_odds_32 rfl rfl ?_
      refine ev_aload_n (q := 35) dX10_odds_34 rfl rfl ?_
      refine ev_iload_n (q := 36) dX10_odds_35 rfl rfl ?_
      refine ev_iload_n (q := 37) dX10_odds_36 rfl rfl ?_
      refine ev_iload (q := 39) dX10_odds_37 rfl rfl ?_
      replace h := Option.bind_eq_some_iff.mp h; obtain ⟨q2, hq2, h⟩ := h
      obtain ⟨hxq2, fsq2, hkq2⟩ := kO_spec hq2
      cases hxq2
      replace h := Option.bind_eq_some_iff.mp h; obtain ⟨r1, hr1, h⟩ := h
      refine ev_invV (M1 := M_X10_crowdUnder) (as := [vi v2, vi v3, vi v5]) (fs := fsq2) (ci := 10) dX10_odds_39 rfl tw_602 cal_X10_crowdUnder tw_604 tw_18 (by decide) rfl rfl (Nat.le_of_ble_eq_true rfl) hkq2 rfl (met_X10_crowdUnder o v2 v3 v5 w _ hr1) ?_
      refine ev_iload_n (q := 43) dX10_odds_42 rfl rfl ?_
      refine ev_ishr (q := 44) dX10_odds_43 rfl ?_
      refine ev_iconst (q := 45) (v := (1 : Int32)) dX10_odds_44 rfl (by decide) ?_
      refine ev_iand (q := 46) dX10_odds_45 rfl ?_
      refine ev_iadd (q := 47) dX10_odds_46 rfl ?_
      refine ev_istore (q := 49) dX10_odds_47 rfl (by decide) ?_
      refine ev_iinc (q := 52) (v := v5 + (1 : Int32)) dX10_odds_49 rfl (by decide) rfl (by rfl) ?_
      refine ev_goto (q := 26) dX10_odds_52 (by decide) ?_
      exact ev_weak _ (mLe_some (mLe_some (mLe_some (mLe_some (mLe_some (mLe_some mLe_nil)))))) (hk (v4 + ((r1 >>> (v1 &&& 31)) &&& (1 : Int32))) (v5 + (1 : Int32)) _ h hP)
def f_X10_odds_J17 (w : mW) : Option (Int32) := some ((-101 : Int32))
set_option maxRecDepth 100000 in
set_option maxHeartbeats 4000000 in
theorem e_X10_odds_J17 {X : mXs} (w : mW) (res : Int32) (h : f_X10_odds_J17 w = some res) : mEv X M_X10_odds 4 (some (vi res)) w 17 [none, none, none, none, none, none] [] w := by
  unfold f_X10_odds_J17 at h
  refine ev_bipush (q := 19) (v := (-101 : Int32)) dX10_odds_17 rfl (by decide) ?_
  cases h
  exact ev_iret dX10_odds_19 rfl rfl
def f_X10_odds (o : Nat) (v1 : Int32) (v2 : Int32) (v3 : Int32) (w : mW) : Option (Int32) := Option.bind (kO w (some o) 10) fun _ => Option.bind (f_X10_isSleeper o v1 w) fun r3 => if r3 = 0 then (f_X10_odds_J17 w) else (Option.bind (kO w (some o) 10) fun _ => Option.bind (f_X10_isToss o v2 v3 w) fun r5 => if r5 = 0 then (f_X10_odds_J17 w) else (Option.bind (f_X10_odds_L26 o v1 v2 v3 w mFuel (0 : Int32) (-1 : Int32)) fun e7 => some (e7)))
set_option maxRecDepth 100000 in
set_option maxHeartbeats 4000000 in
theorem met_X10_odds (o : Nat) (v1 : Int32) (v2 : Int32) (v3 : Int32) (w : mW) (res : Int32) (h : f_X10_odds o v1 v2 v3 w = some res) : mMet M_X10_odds 4 [vr ((some o)), vi v1, vi v2, vi v3] w (some (vi res)) w := by
  refine ev_met (n := 2) (by decide) rfl fun X => ?_
  unfold f_X10_odds at h
  show mEv X M_X10_odds 4 _ _ 0 [some (vr ((some o))), some (vi v1), some (vi v2), some (vi v3), none, none] [] w
  refine ev_aload_n (q := 1) dX10_odds_0 rfl rfl ?_
  refine ev_iload_n (q := 2) dX10_odds_1 rfl rfl ?_
  replace h := Option.bind_eq_some_iff.mp h; obtain ⟨q4, hq4, h⟩ := h
  obtain ⟨hxq4, fsq4, hkq4⟩ := kO_spec hq4
  cases hxq4
  replace h := Option.bind_eq_some_iff.mp h; obtain ⟨r3, hr3, h⟩ := h
  refine ev_invV (M1 := M_X10_isSleeper) (as := [vi v1]) (fs := fsq4) (ci := 10) dX10_odds_2 rfl tw_502 cal_X10_isSleeper tw_504 tw_9 (by decide) rfl rfl (Nat.le_of_ble_eq_true rfl) hkq4 rfl (met_X10_isSleeper o v1 w _ hr3) ?_
  by_cases hc : r3 = 0
  · rw [if_pos hc] at h
    refine ev_if_eq_t (q := 17) dX10_odds_5 (by decide) hc ?_
    exact ev_weak _ (mLe_none (mLe_none (mLe_none (mLe_none (mLe_none (mLe_none mLe_nil)))))) (e_X10_odds_J17 w _ h)
  · rw [if_neg hc] at h
    refine ev_if_eq_f (q := 8) (t0 := 17) dX10_odds_5 (by decide) rfl hc ?_
    refine ev_aload_n (q := 9) dX10_odds_8 rfl rfl ?_
    refine ev_iload_n (q := 10) dX10_odds_9 rfl rfl ?_
    refine ev_iload_n (q := 11) dX10_odds_10 rfl rfl ?_
    replace h := Option.bind_eq_some_iff.mp h; obtain ⟨q6, hq6, h⟩ := h
    obtain ⟨hxq6, fsq6, hkq6⟩ := kO_spec hq6
    cases hxq6
    replace h := Option.bind_eq_some_iff.mp h; obtain ⟨r5, hr5, h⟩ := h
    refine ev_invV (M1 := M_X10_isToss) (as := [vi v2, vi v3]) (fs := fsq6) (ci := 10) dX10_odds_11 rfl tw_646 cal_X10_isToss tw_648 tw_20 (by decide) rfl rfl (Nat.le_of_ble_eq_true rfl) hkq6 rfl (met_X10_isToss o v2 v3 w _ hr5) ?_
    by_cases hc : r5 = 0
    · rw [if_pos hc] at h
      refine ev_if_ne_f (q := 17) (t0 := 20) dX10_odds_14 (by decide) rfl hc ?_
      exact ev_weak _ (mLe_none (mLe_none (mLe_none (mLe_none (mLe_none (mLe_none mLe_nil)))))) (e_X10_odds_J17 w _ h)
    · rw [if_neg hc] at h
      refine ev_if_ne_t (q := 20) dX10_odds_14 (by decide) hc ?_
      refine ev_iconst (q := 21) (v := (0 : Int32)) dX10_odds_20 rfl (by decide) ?_
      refine ev_istore (q := 23) dX10_odds_21 rfl (by decide) ?_
      refine ev_iconst (q := 24) (v := (-1 : Int32)) dX10_odds_23 rfl (by decide) ?_
      refine ev_istore (q := 26) dX10_odds_24 rfl (by decide) ?_
      replace h := Option.bind_eq_some_iff.mp h; obtain ⟨e7, he7, h⟩ := h
      refine ev_weak _ (mLe_some (mLe_some (mLe_some (mLe_some (mLe_some (mLe_some mLe_nil)))))) (e_X10_odds_L26 (fun z => e7 = z) o v1 v2 v3 w (fun e7q hq => ?_) mFuel (0 : Int32) (-1 : Int32) _ he7 rfl)
      subst hq
      refine ev_iload (q := 57) dX10_odds_55 rfl rfl ?_
      cases h
      exact ev_iret dX10_odds_57 rfl rfl
def f_X10_planFor_L40 (o : Nat) (v1 : Int32) (v2 : Int32) (v4 : Int32) : Nat → Int32 → mW → Option (mW)
  | 0, _, _ => none
  | n + 1, v5, w => if (36 : Int32) ≤ v5 then (some (w)) else (Option.bind (gR w (some o) 10 3) fun r1 => Option.bind (gI w r1 2 8) fun r2 => Option.bind (kO w (some o) 10) fun _ => Option.bind (f_X10_crowdUnder o v2 v5 r2 w) fun r3 => Option.bind (gR w (some o) 10 5) fun r5 => Option.bind (kO w r5 4) fun q7 => Option.bind (f_X4_offer q7 (((36 : Int32) * v2) + v5) (r3 &&& v1) v4 w) fun w6 => (f_X10_planFor_L40 o v1 v2 v4 n) (v5 + (1 : Int32)) w6)
set_option maxRecDepth 100000 in
set_option maxHeartbeats 4000000 in
theorem e_X10_planFor_L40 {X : mXs} {r : Option mV} {w' : mW} (P : (mW) → Prop) (o : Nat) (v1 : Int32) (v2 : Int32) (v4 : Int32) (hexit : ∀ y, P y → mEv X M_X10_planFor 4 r w' 89 [some (vr ((some o))), some (vi v1), some (vi v2), none, none, none, none] [] y) : ∀ (n : Nat) (v5 : Int32) (w : mW) (e : mW), f_X10_planFor_L40 o v1 v2 v4 n v5 w = some e → P e → mEv X M_X10_planFor 4 r w' 40 [some (vr ((some o))), some (vi v1), some (vi v2), none, some (vi v4), some (vi v5), none] [] w := by
  intro n
  induction n with
  | zero =>
    intro v5 w e h hP
    rw [f_X10_planFor_L40] at h
    cases h
  | succ n hk =>
    intro v5 w e h hP
    rw [f_X10_planFor_L40] at h
    refine ev_iload (q := 42) dX10_planFor_40 rfl rfl ?_
    refine ev_bipush (q := 44) (v := (36 : Int32)) dX10_planFor_42 rfl (by decide) ?_
    by_cases hc : (36 : Int32) ≤ v5
    · rw [if_pos hc] at h
      refine ev_icmp_ge_t (q := 89) dX10_planFor_44 (by decide) hc ?_
      cases h
      exact ev_weak _ (mLe_some (mLe_some (mLe_some (mLe_none (mLe_none (mLe_none (mLe_none mLe_nil))))))) (hexit _ hP)
    · rw [if_neg hc] at h
      refine ev_icmp_ge_f (q := 47) (t0 := 89) dX10_planFor_44 (by decide) rfl hc ?_
      refine ev_aload_n (q := 48) dX10_planFor_47 rfl rfl ?_
      refine ev_iload_n (q := 49) dX10_planFor_48 rfl rfl ?_
      refine ev_iload (q := 51) dX10_planFor_49 rfl rfl ?_
      refine ev_aload_n (q := 52) dX10_planFor_51 rfl rfl ?_
      replace h := Option.bind_eq_some_iff.mp h; obtain ⟨r1, hr1, h⟩ := h
      refine ev_gR dX10_planFor_52 fl_X10_32 hr1 rfl ?_
      replace h := Option.bind_eq_some_iff.mp h; obtain ⟨r2, hr2, h⟩ := h
      refine ev_gI dX10_planFor_55 fl_X10_146 hr2 rfl ?_
      replace h := Option.bind_eq_some_iff.mp h; obtain ⟨q4, hq4, h⟩ := h
      obtain ⟨hxq4, fsq4, hkq4⟩ := kO_spec hq4
      cases hxq4
      replace h := Option.bind_eq_some_iff.mp h; obtain ⟨r3, hr3, h⟩ := h
      refine ev_invV (M1 := M_X10_crowdUnder) (as := [vi v2, vi v5, vi r2]) (fs := fsq4) (ci := 10) dX10_planFor_58 rfl tw_602 cal_X10_crowdUnder tw_604 tw_18 (by decide) rfl rfl (Nat.le_of_ble_eq_true rfl) hkq4 rfl (met_X10_crowdUnder o v2 v5 r2 w _ hr3) ?_
      refine ev_iload_n (q := 62) dX10_planFor_61 rfl rfl ?_
      refine ev_iand (q := 63) dX10_planFor_62 rfl ?_
      refine ev_istore (q := 65) dX10_planFor_63 rfl (by decide) ?_
      refine ev_aload_n (q := 66) dX10_planFor_65 rfl rfl ?_
      replace h := Option.bind_eq_some_iff.mp h; obtain ⟨r5, hr5, h⟩ := h
      refine ev_gR dX10_planFor_66 fl_X10_42 hr5 rfl ?_
      refine ev_bipush (q := 71) (v := (36 : Int32)) dX10_planFor_69 rfl (by decide) ?_
      refine ev_iload_n (q := 72) dX10_planFor_71 rfl rfl ?_
      refine ev_imul (q := 73) dX10_planFor_72 rfl ?_
      refine ev_iload (q := 75) dX10_planFor_73 rfl rfl ?_
      refine ev_iadd (q := 76) dX10_planFor_75 rfl ?_
      refine ev_iload (q := 78) dX10_planFor_76 rfl rfl ?_
      refine ev_iload (q := 80) dX10_planFor_78 rfl rfl ?_
      replace h := Option.bind_eq_some_iff.mp h; obtain ⟨q7, hq7, h⟩ := h
      obtain ⟨hxq7, fsq7, hkq7⟩ := kO_spec hq7
      subst hxq7
      replace h := Option.bind_eq_some_iff.mp h; obtain ⟨w6, hw6, h⟩ := h
      refine ev_invV (M1 := M_X4_offer) (as := [vi (((36 : Int32) * v2) + v5), vi (r3 &&& v1), vi v4]) (fs := fsq7) (ci := 4) dX10_planFor_80 rfl tw_712 cal_X4_offer tw_713 tw_714 (by decide) rfl rfl (Nat.le_of_ble_eq_true rfl) hkq7 rfl (met_X4_offer q7 (((36 : Int32) * v2) + v5) (r3 &&& v1) v4 w _ hw6) ?_
      refine ev_iinc (q := 86) (v := v5 + (1 : Int32)) dX10_planFor_83 rfl (by decide) rfl (by rfl) ?_
      refine ev_goto (q := 40) dX10_planFor_86 (by decide) ?_
      exact ev_weak _ (mLe_some (mLe_some (mLe_some (mLe_none (mLe_some (mLe_some (mLe_none mLe_nil))))))) (hk (v5 + (1 : Int32)) w6 _ h hP)
def f_X10_planFor_J35 (kc : Int32 → mW → Option (mW)) (o : Nat) (v1 : Int32) (v2 : Int32) (s0 : Int32) (w : mW) : Option (mW) := Option.bind (f_X10_planFor_L40 o v1 v2 s0 mFuel (0 : Int32) w) fun e8 => kc (v2 + (1 : Int32)) e8
set_option maxRecDepth 100000 in
set_option maxHeartbeats 4000000 in
theorem e_X10_planFor_J35 {X : mXs} {r : Option mV} {w' : mW} (P : (mW) → Prop) (o : Nat) (v1 : Int32) (v2 : Int32) (s0 : Int32) (w : mW) (kc : Int32 → mW → Option (mW)) (hk : ∀ (u2 : Int32) (uw : mW) (e : mW), kc u2 uw = some e → P e → mEv X M_X10_planFor 4 r w' 9 [some (vr ((some o))), some (vi v1), some (vi u2), none, none, none, none] [] uw) (e : mW) (h : f_X10_planFor_J35 kc o v1 v2 s0 w = some e) (hP : P e) : mEv X M_X10_planFor 4 r w' 35 [some (vr ((some o))), some (vi v1), some (vi v2), none, none, none, none] [vi s0] w := by
  unfold f_X10_planFor_J35 at h
  refine ev_istore (q := 37) dX10_planFor_35 rfl (by decide) ?_
  refine ev_iconst (q := 38) (v := (0 : Int32)) dX10_planFor_37 rfl (by decide) ?_
  refine ev_istore (q := 40) dX10_planFor_38 rfl (by decide) ?_
  replace h := Option.bind_eq_some_iff.mp h; obtain ⟨e8, he8, h⟩ := h
  refine ev_weak _ (mLe_some (mLe_some (mLe_some (mLe_none (mLe_some (mLe_some (mLe_none mLe_nil))))))) (e_X10_planFor_L40 (fun z => e8 = z) o v1 v2 s0 (fun e8q hq => ?_) mFuel (0 : Int32) w _ he8 rfl)
  subst hq
  refine ev_iinc (q := 92) (v := v2 + (1 : Int32)) dX10_planFor_89 rfl (by decide) rfl (by rfl) ?_
  refine ev_goto (q := 9) dX10_planFor_92 (by decide) ?_
  exact ev_weak _ (mLe_some (mLe_some (mLe_some (mLe_none (mLe_none (mLe_none (mLe_none mLe_nil))))))) (hk (v2 + (1 : Int32)) e8 _ h hP)
def f_X10_planFor_L9 (o : Nat) (v1 : Int32) : Nat → Int32 → mW → Option (mW)
  | 0, _, _ => none
  | n + 1, v2, w => Option.bind (gI w (some o) 10 8) fun r9 => if r9 ≤ v2 then (some (w)) else (Option.bind (kO w (some o) 10) fun _ => Option.bind (f_X10_tosserAt o v2 w) fun r10 => oC r10 (f_X10_planFor_J35 (f_X10_planFor_L9 o v1 n) o v1 v2 (0 : Int32) w) (fun a12 => Option.bind (dv_batter (some a12)  w) fun r13 => f_X10_planFor_J35 (f_X10_planFor_L9 o v1 n) o v1 v2 r13 w))
set_option maxRecDepth 100000 in
set_option maxHeartbeats 4000000 in
theorem e_X10_planFor_L9 {X : mXs} {r : Option mV} {w' : mW} (P : (mW) → Prop) (o : Nat) (v1 : Int32) (hexit : ∀ y, P y → mEv X M_X10_planFor 4 r w' 95 [some (vr ((some o))), some (vi v1), none, none, none, none, none] [] y) : ∀ (n : Nat) (v2 : Int32) (w : mW) (e : mW), f_X10_planFor_L9 o v1 n v2 w = some e → P e → mEv X M_X10_planFor 4 r w' 9 [some (vr ((some o))), some (vi v1), some (vi v2), none, none, none, none] [] w := by
  intro n
  induction n with
  | zero =>
    intro v2 w e h hP
    rw [f_X10_planFor_L9] at h
    cases h
  | succ n hk =>
    intro v2 w e h hP
    rw [f_X10_planFor_L9] at h
    refine ev_iload_n (q := 10) dX10_planFor_9 rfl rfl ?_
    refine ev_aload_n (q := 11) dX10_planFor_10 rfl rfl ?_
    replace h := Option.bind_eq_some_iff.mp h; obtain ⟨r9, hr9, h⟩ := h
    refine ev_gI dX10_planFor_11 fl_X10_197 hr9 rfl ?_
    by_cases hc : r9 ≤ v2
    · rw [if_pos hc] at h
      refine ev_icmp_ge_t (q := 95) dX10_planFor_14 (by decide) hc ?_
      cases h
      exact ev_weak _ (mLe_some (mLe_some (mLe_none (mLe_none (mLe_none (mLe_none (mLe_none mLe_nil))))))) (hexit _ hP)
    · rw [if_neg hc] at h
      refine ev_icmp_ge_f (q := 17) (t0 := 95) dX10_planFor_14 (by decide) rfl hc ?_
      refine ev_aload_n (q := 18) dX10_planFor_17 rfl rfl ?_
      refine ev_iload_n (q := 19) dX10_planFor_18 rfl rfl ?_
      replace h := Option.bind_eq_some_iff.mp h; obtain ⟨q11, hq11, h⟩ := h
      obtain ⟨hxq11, fsq11, hkq11⟩ := kO_spec hq11
      cases hxq11
      replace h := Option.bind_eq_some_iff.mp h; obtain ⟨r10, hr10, h⟩ := h
      refine ev_invV (M1 := M_X10_tosserAt) (as := [vi v2]) (fs := fsq11) (ci := 10) dX10_planFor_19 rfl tw_515 cal_X10_tosserAt tw_517 tw_12 (by decide) rfl rfl (Nat.le_of_ble_eq_true rfl) hkq11 rfl (met_X10_tosserAt o v2 w _ hr10) ?_
      refine ev_astore_n (q := 23) dX10_planFor_22 rfl (by decide) ?_
      refine ev_aload_n (q := 24) dX10_planFor_23 rfl rfl ?_
      rcases r10 with _ | a12
      · dsimp only [oC] at h
        refine ev_ifnonnull_f (q := 27) dX10_planFor_24 rfl ?_
        refine ev_iconst (q := 28) (v := (0 : Int32)) dX10_planFor_27 rfl (by decide) ?_
        refine ev_goto (q := 35) dX10_planFor_28 (by decide) ?_
        exact ev_weak _ (mLe_some (mLe_some (mLe_some (mLe_none (mLe_none (mLe_none (mLe_none mLe_nil))))))) (e_X10_planFor_J35 P o v1 v2 (0 : Int32) w _ hk  _ h hP)
      · dsimp only [oC] at h
        refine ev_ifnonnull_t (q := 31) dX10_planFor_24 (by decide) ?_
        refine ev_aload_n (q := 32) dX10_planFor_31 rfl rfl ?_
        replace h := Option.bind_eq_some_iff.mp h; obtain ⟨r13, hr13, h⟩ := h
        refine ev_dv_batter dX10_planFor_32 rfl tw_577 (by decide) (Nat.le_of_ble_eq_true rfl) hr13 ?_
        exact ev_weak _ (mLe_some (mLe_some (mLe_some (mLe_none (mLe_none (mLe_none (mLe_none mLe_nil))))))) (e_X10_planFor_J35 P o v1 v2 r13 w _ hk  _ h hP)
def f_X10_planFor (o : Nat) (v1 : Int32) (w : mW) : Option (mW) := Option.bind (gR w (some o) 10 5) fun r14 => Option.bind (kO w r14 4) fun q16 => Option.bind (f_X4_begin q16  w) fun w15 => Option.bind (f_X10_planFor_L9 o v1 mFuel (0 : Int32) w15) fun e17 => Option.bind (gR e17 (some o) 10 5) fun r18 => Option.bind (kO e17 r18 4) fun q20 => Option.bind (f_X4_solve q20 v1 e17) fun w19 => Option.bind (gR w19 (some o) 10 5) fun r21 => Option.bind (kO w19 r21 4) fun q23 => Option.bind (f_X4_choose q23 v1 w19) fun w22 => some (w22)
set_option maxRecDepth 100000 in
set_option maxHeartbeats 4000000 in
theorem met_X10_planFor (o : Nat) (v1 : Int32) (w : mW) (res : mW) (h : f_X10_planFor o v1 w = some res) : mMet M_X10_planFor 4 [vr ((some o)), vi v1] w none res := by
  refine ev_met (n := 5) (by decide) rfl fun X => ?_
  unfold f_X10_planFor at h
  show mEv X M_X10_planFor 4 _ _ 0 [some (vr ((some o))), some (vi v1), none, none, none, none, none] [] w
  refine ev_aload_n (q := 1) dX10_planFor_0 rfl rfl ?_
  replace h := Option.bind_eq_some_iff.mp h; obtain ⟨r14, hr14, h⟩ := h
  refine ev_gR dX10_planFor_1 fl_X10_42 hr14 rfl ?_
  replace h := Option.bind_eq_some_iff.mp h; obtain ⟨q16, hq16, h⟩ := h
  obtain ⟨hxq16, fsq16, hkq16⟩ := kO_spec hq16
  subst hxq16
  replace h := Option.bind_eq_some_iff.mp h; obtain ⟨w15, hw15, h⟩ := h
  refine ev_invV (M1 := M_X4_begin) (as := []) (fs := fsq16) (ci := 4) dX10_planFor_4 rfl tw_705 cal_X4_begin tw_706 tw_707 (by decide) rfl rfl (Nat.le_of_ble_eq_true rfl) hkq16 rfl (met_X4_begin q16  w _ hw15) ?_
  refine ev_iconst (q := 8) (v := (0 : Int32)) dX10_planFor_7 rfl (by decide) ?_
  refine ev_istore_n (q := 9) dX10_planFor_8 rfl (by decide) ?_
  replace h := Option.bind_eq_some_iff.mp h; obtain ⟨e17, he17, h⟩ := h
  refine ev_weak _ (mLe_some (mLe_some (mLe_some (mLe_none (mLe_none (mLe_none (mLe_none mLe_nil))))))) (e_X10_planFor_L9 (fun z => e17 = z) o v1 (fun e17q hq => ?_) mFuel (0 : Int32) w15 _ he17 rfl)
  subst hq
  refine ev_aload_n (q := 96) dX10_planFor_95 rfl rfl ?_
  replace h := Option.bind_eq_some_iff.mp h; obtain ⟨r18, hr18, h⟩ := h
  refine ev_gR dX10_planFor_96 fl_X10_42 hr18 rfl ?_
  refine ev_iload_n (q := 100) dX10_planFor_99 rfl rfl ?_
  replace h := Option.bind_eq_some_iff.mp h; obtain ⟨q20, hq20, h⟩ := h
  obtain ⟨hxq20, fsq20, hkq20⟩ := kO_spec hq20
  subst hxq20
  replace h := Option.bind_eq_some_iff.mp h; obtain ⟨w19, hw19, h⟩ := h
  refine ev_invV (M1 := M_X4_solve) (as := [vi v1]) (fs := fsq20) (ci := 4) dX10_planFor_100 rfl tw_718 cal_X4_solve tw_719 tw_720 (by decide) rfl rfl (Nat.le_of_ble_eq_true rfl) hkq20 rfl (met_X4_solve q20 v1 e17 _ hw19) ?_
  refine ev_aload_n (q := 104) dX10_planFor_103 rfl rfl ?_
  replace h := Option.bind_eq_some_iff.mp h; obtain ⟨r21, hr21, h⟩ := h
  refine ev_gR dX10_planFor_104 fl_X10_42 hr21 rfl ?_
  refine ev_iload_n (q := 108) dX10_planFor_107 rfl rfl ?_
  replace h := Option.bind_eq_some_iff.mp h; obtain ⟨q23, hq23, h⟩ := h
  obtain ⟨hxq23, fsq23, hkq23⟩ := kO_spec hq23
  subst hxq23
  replace h := Option.bind_eq_some_iff.mp h; obtain ⟨w22, hw22, h⟩ := h
  refine ev_invV (M1 := M_X4_choose) (as := [vi v1]) (fs := fsq23) (ci := 4) dX10_planFor_108 rfl tw_726 cal_X4_choose tw_727 tw_728 (by decide) rfl rfl (Nat.le_of_ble_eq_true rfl) hkq23 rfl (met_X4_choose q23 v1 w19 _ hw22) ?_
  cases h
  exact ev_vret dX10_planFor_111 rfl
def f_X10_restore (o : Nat) (w : mW) : Option (Int32 × mW) := Option.bind (gI w (some o) 10 10) fun r1 => if r1 = 0 then (some (((-103 : Int32), w))) else (Option.bind (gR w (some o) 10 3) fun r2 => Option.bind (gR w (some o) 10 4) fun r3 => Option.bind (kO w r2 2) fun q5 => Option.bind (f_X2_takeFrom q5 r3 w) fun w4 => Option.bind (gR w4 (some o) 10 3) fun r6 => Option.bind (gI w4 r6 2 10) fun r7 => some ((r7, w4)))
set_option maxRecDepth 100000 in
set_option maxHeartbeats 4000000 in
theorem met_X10_restore (o : Nat) (w : mW) (res : Int32 × mW) (h : f_X10_restore o w = some res) : mMet M_X10_restore 4 [vr ((some o))] w (some (vi res.1)) res.2 := by
  refine ev_met (n := 0) (by decide) rfl fun X => ?_
  unfold f_X10_restore at h
  show mEv X M_X10_restore 4 _ _ 0 [some (vr ((some o)))] [] w
  refine ev_aload_n (q := 1) dX10_restore_0 rfl rfl ?_
  replace h := Option.bind_eq_some_iff.mp h; obtain ⟨r1, hr1, h⟩ := h
  refine ev_gI dX10_restore_1 fl_X10_223 hr1 rfl ?_
  by_cases hc : r1 = 0
  · rw [if_pos hc] at h
    refine ev_if_ne_f (q := 7) (t0 := 10) dX10_restore_4 (by decide) rfl hc ?_
    refine ev_bipush (q := 9) (v := (-103 : Int32)) dX10_restore_7 rfl (by decide) ?_
    cases h
    exact ev_iret dX10_restore_9 rfl rfl
  · rw [if_neg hc] at h
    refine ev_if_ne_t (q := 10) dX10_restore_4 (by decide) hc ?_
    refine ev_aload_n (q := 11) dX10_restore_10 rfl rfl ?_
    replace h := Option.bind_eq_some_iff.mp h; obtain ⟨r2, hr2, h⟩ := h
    refine ev_gR dX10_restore_11 fl_X10_32 hr2 rfl ?_
    refine ev_aload_n (q := 15) dX10_restore_14 rfl rfl ?_
    replace h := Option.bind_eq_some_iff.mp h; obtain ⟨r3, hr3, h⟩ := h
    refine ev_gR dX10_restore_15 fl_X10_36 hr3 rfl ?_
    replace h := Option.bind_eq_some_iff.mp h; obtain ⟨q5, hq5, h⟩ := h
    obtain ⟨hxq5, fsq5, hkq5⟩ := kO_spec hq5
    subst hxq5
    replace h := Option.bind_eq_some_iff.mp h; obtain ⟨w4, hw4, h⟩ := h
    refine ev_invV (M1 := M_X2_takeFrom) (as := [vr r3]) (fs := fsq5) (ci := 2) dX10_restore_18 rfl tw_785 cal_X2_takeFrom tw_786 tw_787 (by decide) rfl rfl (Nat.le_of_ble_eq_true rfl) hkq5 rfl (met_X2_takeFrom q5 r3 w _ hw4) ?_
    refine ev_aload_n (q := 22) dX10_restore_21 rfl rfl ?_
    replace h := Option.bind_eq_some_iff.mp h; obtain ⟨r6, hr6, h⟩ := h
    refine ev_gR dX10_restore_22 fl_X10_32 hr6 rfl ?_
    replace h := Option.bind_eq_some_iff.mp h; obtain ⟨r7, hr7, h⟩ := h
    refine ev_gI dX10_restore_25 fl_X10_176 hr7 rfl ?_
    cases h
    exact ev_iret dX10_restore_28 rfl rfl
def f_X10_seasons_J159 (s0 : Int32) (w : mW) : Option (Int32) := some (s0)
set_option maxRecDepth 100000 in
set_option maxHeartbeats 4000000 in
theorem e_X10_seasons_J159 {X : mXs} (s0 : Int32) (w : mW) (res : Int32) (h : f_X10_seasons_J159 s0 w = some res) : mEv X M_X10_seasons 4 (some (vi res)) w 159 [none, none, none, none, none, none, none, none, none, none, none] [vi s0] w := by
  unfold f_X10_seasons_J159 at h
  cases h
  exact ev_iret dX10_seasons_159 rfl rfl
def f_X10_seasons_L49 (o : Nat) (v1 : Int32) (v3 : Int32) (w : mW) : Nat → Int32 → Int32 → Int32 → Int32 → Option (Int32 × Int32 × Int32)
  | 0, _, _, _, _ => none
  | n + 1, v4, v5, v6, v7 => if v1 ≤ v7 then (some ((v4, v5, v6))) else (Option.bind (f_X10_nextSeed v4 w) fun r1 => Option.bind (f_X10_draw r1 (3 : Int32) w) fun r2 => Option.bind (f_X10_nextSeed r1 w) fun r3 => Option.bind (gI w (some o) 10 8) fun r4 => Option.bind (f_X10_draw r3 r4 w) fun r5 => Option.bind (f_X10_nextSeed r3 w) fun r6 => Option.bind (f_X10_draw r6 (36 : Int32) w) fun r7 => Option.bind (kO w (some o) 10) fun _ => Option.bind (f_X10_crowdUnder o r5 r7 (r2 - (1 : Int32)) w) fun r8 => Option.bind (f_J6_bitCount_0f7a4 r8 w) fun r10 => (f_X10_seasons_L49 o v1 v3 w n) r6 (v5 + r10) (v6 ||| r8) (v7 + (1 : Int32)))
set_option maxRecDepth 100000 in
set_option maxHeartbeats 4000000 in
theorem e_X10_seasons_L49 {X : mXs} {r : Option mV} {w' : mW} (P : (Int32 × Int32 × Int32) → Prop) (o : Nat) (v1 : Int32) (v3 : Int32) (w : mW) (hexit : ∀ y, P y → mEv X M_X10_seasons 4 r w' 137 [none, none, none, some (vi v3), some (vi y.1), some (vi y.2.1), some (vi y.2.2), none, none, none, none] [] w) : ∀ (n : Nat) (v4 : Int32) (v5 : Int32) (v6 : Int32) (v7 : Int32) (e : Int32 × Int32 × Int32), f_X10_seasons_L49 o v1 v3 w n v4 v5 v6 v7 = some e → P e → mEv X M_X10_seasons 4 r w' 49 [some (vr ((some o))), some (vi v1), none, some (vi v3), some (vi v4), some (vi v5), some (vi v6), some (vi v7), none, none, none] [] w := by
  intro n
  induction n with
  | zero =>
    intro v4 v5 v6 v7 e h hP
    rw [f_X10_seasons_L49] at h
    cases h
  | succ n hk =>
    intro v4 v5 v6 v7 e h hP
    rw [f_X10_seasons_L49] at h
    refine ev_iload (q := 51) dX10_seasons_49 rfl rfl ?_
    refine ev_iload_n (q := 52) dX10_seasons_51 rfl rfl ?_
    by_cases hc : v1 ≤ v7
    · rw [if_pos hc] at h
      refine ev_icmp_ge_t (q := 137) dX10_seasons_52 (by decide) hc ?_
      cases h
      exact ev_weak _ (mLe_none (mLe_none (mLe_none (mLe_some (mLe_some (mLe_some (mLe_some (mLe_none (mLe_none (mLe_none (mLe_none mLe_nil))))))))))) (hexit _ hP)
    · rw [if_neg hc] at h
      refine ev_icmp_ge_f (q := 55) (t0 := 137) dX10_seasons_52 (by decide) rfl hc ?_
      refine ev_iload (q := 57) dX10_seasons_55 rfl rfl ?_
      replace h := Option.bind_eq_some_iff.mp h; obtain ⟨r1, hr1, h⟩ := h
      refine ev_invS (M1 := M_X10_nextSeed) (as := [vi v4]) dX10_seasons_57 rfl tw_771 cal_X10_nextSeed tw_772 (by decide) rfl rfl (Nat.le_of_ble_eq_true rfl) (met_X10_nextSeed v4 w _ hr1) ?_
      refine ev_istore (q := 62) dX10_seasons_60 rfl (by decide) ?_
      refine ev_iload (q := 64) dX10_seasons_62 rfl rfl ?_
      refine ev_iconst (q := 65) (v := (3 : Int32)) dX10_seasons_64 rfl (by decide) ?_
      replace h := Option.bind_eq_some_iff.mp h; obtain ⟨r2, hr2, h⟩ := h
      refine ev_invS (M1 := M_X10_draw) (as := [vi r1, vi ((3 : Int32))]) dX10_seasons_65 rfl tw_777 cal_X10_draw tw_778 (by decide) rfl rfl (Nat.le_of_ble_eq_true rfl) (met_X10_draw r1 (3 : Int32) w _ hr2) ?_
      refine ev_iconst (q := 69) (v := (1 : Int32)) dX10_seasons_68 rfl (by decide) ?_
      refine ev_isub (q := 70) dX10_seasons_69 rfl ?_
      refine ev_istore (q := 72) dX10_seasons_70 rfl (by decide) ?_
      refine ev_iload (q := 74) dX10_seasons_72 rfl rfl ?_
      replace h := Option.bind_eq_some_iff.mp h; obtain ⟨r3, hr3, h⟩ := h
      refine ev_invS (M1 := M_X10_nextSeed) (as := [vi r1]) dX10_seasons_74 rfl tw_771 cal_X10_nextSeed tw_772 (by decide) rfl rfl (Nat.le_of_ble_eq_true rfl) (met_X10_nextSeed r1 w _ hr3) ?_
      refine ev_istore (q := 79) dX10_seasons_77 rfl (by decide) ?_
      refine ev_iload (q := 81) dX10_seasons_79 rfl rfl ?_
      refine ev_aload_n (q := 82) dX10_seasons_81 rfl rfl ?_
      replace h := Option.bind_eq_some_iff.mp h; obtain ⟨r4, hr4, h⟩ := h
      refine ev_gI dX10_seasons_82 fl_X10_197 hr4 rfl ?_
      replace h := Option.bind_eq_some_iff.mp h; obtain ⟨r5, hr5, h⟩ := h
      refine ev_invS (M1 := M_X10_draw) (as := [vi r3, vi r4]) dX10_seasons_85 rfl tw_777 cal_X10_draw tw_778 (by decide) rfl rfl (Nat.le_of_ble_eq_true rfl) (met_X10_draw r3 r4 w _ hr5) ?_
      refine ev_istore (q := 90) dX10_seasons_88 rfl (by decide) ?_
      refine ev_iload (q := 92) dX10_seasons_90 rfl rfl ?_
      replace h := Option.bind_eq_some_iff.mp h; obtain ⟨r6, hr6, h⟩ := h
      refine ev_invS (M1 := M_X10_nextSeed) (as := [vi r3]) dX10_seasons_92 rfl tw_771 cal_X10_nextSeed tw_772 (by decide) rfl rfl (Nat.le_of_ble_eq_true rfl) (met_X10_nextSeed r3 w _ hr6) ?_
      refine ev_istore (q := 97) dX10_seasons_95 rfl (by decide) ?_
      refine ev_aload_n (q := 98) dX10_seasons_97 rfl rfl ?_
      refine ev_iload (q := 100) dX10_seasons_98 rfl rfl ?_
      refine ev_iload (q := 102) dX10_seasons_100 rfl rfl ?_
      refine ev_bipush (q := 104) (v := (36 : Int32)) dX10_seasons_102 rfl (by decide) ?_
      replace h := Option.bind_eq_some_iff.mp h; obtain ⟨r7, hr7, h⟩ := h
      refine ev_invS (M1 := M_X10_draw) (as := [vi r6, vi ((36 : Int32))]) dX10_seasons_104 rfl tw_777 cal_X10_draw tw_778 (by decide) rfl rfl (Nat.le_of_ble_eq_true rfl) (met_X10_draw r6 (36 : Int32) w _ hr7) ?_
      refine ev_iload (q := 109) dX10_seasons_107 rfl rfl ?_
      replace h := Option.bind_eq_some_iff.mp h; obtain ⟨q9, hq9, h⟩ := h
      obtain ⟨hxq9, fsq9, hkq9⟩ := kO_spec hq9
      cases hxq9
      replace h := Option.bind_eq_some_iff.mp h; obtain ⟨r8, hr8, h⟩ := h
      refine ev_invV (M1 := M_X10_crowdUnder) (as := [vi r5, vi r7, vi (r2 - (1 : Int32))]) (fs := fsq9) (ci := 10) dX10_seasons_109 rfl tw_602 cal_X10_crowdUnder tw_604 tw_18 (by decide) rfl rfl (Nat.le_of_ble_eq_true rfl) hkq9 rfl (met_X10_crowdUnder o r5 r7 (r2 - (1 : Int32)) w _ hr8) ?_
      refine ev_istore (q := 114) dX10_seasons_112 rfl (by decide) ?_
      refine ev_iload (q := 116) dX10_seasons_114 rfl rfl ?_
      refine ev_iload (q := 118) dX10_seasons_116 rfl rfl ?_
      replace h := Option.bind_eq_some_iff.mp h; obtain ⟨r10, hr10, h⟩ := h
      refine ev_invS (M1 := M_J6_bitCount_0f7a4) (as := [vi r8]) dX10_seasons_118 rfl tw_606 cal_J6_bitCount_0f7a4 tw_607 (by decide) rfl rfl (Nat.le_of_ble_eq_true rfl) (met_J6_bitCount_0f7a4 r8 w _ hr10) ?_
      refine ev_iadd (q := 122) dX10_seasons_121 rfl ?_
      refine ev_istore (q := 124) dX10_seasons_122 rfl (by decide) ?_
      refine ev_iload (q := 126) dX10_seasons_124 rfl rfl ?_
      refine ev_iload (q := 128) dX10_seasons_126 rfl rfl ?_
      refine ev_ior (q := 129) dX10_seasons_128 rfl ?_
      refine ev_istore (q := 131) dX10_seasons_129 rfl (by decide) ?_
      refine ev_iinc (q := 134) (v := v7 + (1 : Int32)) dX10_seasons_131 rfl (by decide) rfl (by rfl) ?_
      refine ev_goto (q := 49) dX10_seasons_134 (by decide) ?_
      exact ev_weak _ (mLe_some (mLe_some (mLe_none (mLe_some (mLe_some (mLe_some (mLe_some (mLe_some (mLe_none (mLe_none (mLe_none mLe_nil))))))))))) (hk r6 (v5 + r10) (v6 ||| r8) (v7 + (1 : Int32)) _ h hP)
def f_X10_seasons_J24 (w : mW) : Option (Int32) := some ((-102 : Int32))
set_option maxRecDepth 100000 in
set_option maxHeartbeats 4000000 in
theorem e_X10_seasons_J24 {X : mXs} (w : mW) (res : Int32) (h : f_X10_seasons_J24 w = some res) : mEv X M_X10_seasons 4 (some (vi res)) w 24 [none, none, none, none, none, none, none, none, none, none, none] [] w := by
  unfold f_X10_seasons_J24 at h
  refine ev_bipush (q := 26) (v := (-102 : Int32)) dX10_seasons_24 rfl (by decide) ?_
  cases h
  exact ev_iret dX10_seasons_26 rfl rfl
def f_X10_seasons (o : Nat) (v1 : Int32) (v2 : Int32) (v3 : Int32) (w : mW) : Option (Int32) := if v1 < (1 : Int32) then (f_X10_seasons_J24 w) else (if (60 : Int32) < v1 then (f_X10_seasons_J24 w) else (if v2 < 0 then (f_X10_seasons_J24 w) else (if v3 < 0 then (f_X10_seasons_J24 w) else (if v3 ≤ (2 : Int32) then (Option.bind (kO w (some o) 10) fun _ => Option.bind (f_X10_hasPort o  w) fun r11 => if r11 = 0 then (some ((-103 : Int32))) else (Option.bind (f_X10_seasons_L49 o v1 v3 w mFuel v2 (0 : Int32) (0 : Int32) (0 : Int32)) fun e13 => if v3 = (2 : Int32) then (some (e13.1)) else (if v3 = 0 then (f_X10_seasons_J159 e13.2.1 w) else (Option.bind (f_J6_bitCount_0f7a4 e13.2.2 w) fun r14 => f_X10_seasons_J159 r14 w)))) else (f_X10_seasons_J24 w)))))
set_option maxRecDepth 100000 in
set_option maxHeartbeats 4000000 in
theorem met_X10_seasons (o : Nat) (v1 : Int32) (v2 : Int32) (v3 : Int32) (w : mW) (res : Int32) (h : f_X10_seasons o v1 v2 v3 w = some res) : mMet M_X10_seasons 4 [vr ((some o)), vi v1, vi v2, vi v3] w (some (vi res)) w := by
  refine ev_met (n := 7) (by decide) rfl fun X => ?_
  unfold f_X10_seasons at h
  show mEv X M_X10_seasons 4 _ _ 0 [some (vr ((some o))), some (vi v1), some (vi v2), some (vi v3), none, none, none, none, none, none, none] [] w
  refine ev_iload_n (q := 1) dX10_seasons_0 rfl rfl ?_
  refine ev_iconst (q := 2) (v := (1 : Int32)) dX10_seasons_1 rfl (by decide) ?_
  by_cases hc : v1 < (1 : Int32)
  · rw [if_pos hc] at h
    refine ev_icmp_lt_t (q := 24) dX10_seasons_2 (by decide) hc ?_
    exact ev_weak _ (mLe_none (mLe_none (mLe_none (mLe_none (mLe_none (mLe_none (mLe_none (mLe_none (mLe_none (mLe_none (mLe_none mLe_nil))))))))))) (e_X10_seasons_J24 w _ h)
  · rw [if_neg hc] at h
    refine ev_icmp_lt_f (q := 5) (t0 := 24) dX10_seasons_2 (by decide) rfl hc ?_
    refine ev_iload_n (q := 6) dX10_seasons_5 rfl rfl ?_
    refine ev_bipush (q := 8) (v := (60 : Int32)) dX10_seasons_6 rfl (by decide) ?_
    by_cases hc : (60 : Int32) < v1
    · rw [if_pos hc] at h
      refine ev_icmp_gt_t (q := 24) dX10_seasons_8 (by decide) hc ?_
      exact ev_weak _ (mLe_none (mLe_none (mLe_none (mLe_none (mLe_none (mLe_none (mLe_none (mLe_none (mLe_none (mLe_none (mLe_none mLe_nil))))))))))) (e_X10_seasons_J24 w _ h)
    · rw [if_neg hc] at h
      refine ev_icmp_gt_f (q := 11) (t0 := 24) dX10_seasons_8 (by decide) rfl hc ?_
      refine ev_iload_n (q := 12) dX10_seasons_11 rfl rfl ?_
      by_cases hc : v2 < 0
      · rw [if_pos hc] at h
        refine ev_if_lt_t (q := 24) dX10_seasons_12 (by decide) hc ?_
        exact ev_weak _ (mLe_none (mLe_none (mLe_none (mLe_none (mLe_none (mLe_none (mLe_none (mLe_none (mLe_none (mLe_none (mLe_none mLe_nil))))))))))) (e_X10_seasons_J24 w _ h)
      · rw [if_neg hc] at h
        refine ev_if_lt_f (q := 15) (t0 := 24) dX10_seasons_12 (by decide) rfl hc ?_
        refine ev_iload_n (q := 16) dX10_seasons_15 rfl rfl ?_
        by_cases hc : v3 < 0
        · rw [if_pos hc] at h
          refine ev_if_lt_t (q := 24) dX10_seasons_16 (by decide) hc ?_
          exact ev_weak _ (mLe_none (mLe_none (mLe_none (mLe_none (mLe_none (mLe_none (mLe_none (mLe_none (mLe_none (mLe_none (mLe_none mLe_nil))))))))))) (e_X10_seasons_J24 w _ h)
        · rw [if_neg hc] at h
          refine ev_if_lt_f (q := 19) (t0 := 24) dX10_seasons_16 (by decide) rfl hc ?_
          refine ev_iload_n (q := 20) dX10_seasons_19 rfl rfl ?_
          refine ev_iconst (q := 21) (v := (2 : Int32)) dX10_seasons_20 rfl (by decide) ?_
          by_cases hc : v3 ≤ (2 : Int32)
          · rw [if_pos hc] at h
            refine ev_icmp_le_t (q := 27) dX10_seasons_21 (by decide) hc ?_
            refine ev_aload_n (q := 28) dX10_seasons_27 rfl rfl ?_
            replace h := Option.bind_eq_some_iff.mp h; obtain ⟨q12, hq12, h⟩ := h
            obtain ⟨hxq12, fsq12, hkq12⟩ := kO_spec hq12
            cases hxq12
            replace h := Option.bind_eq_some_iff.mp h; obtain ⟨r11, hr11, h⟩ := h
            refine ev_invV (M1 := M_X10_hasPort) (as := []) (fs := fsq12) (ci := 10) dX10_seasons_28 rfl tw_654 cal_X10_hasPort tw_656 tw_22 (by decide) rfl rfl (Nat.le_of_ble_eq_true rfl) hkq12 rfl (met_X10_hasPort o  w _ hr11) ?_
            by_cases hc : r11 = 0
            · rw [if_pos hc] at h
              refine ev_if_ne_f (q := 34) (t0 := 37) dX10_seasons_31 (by decide) rfl hc ?_
              refine ev_bipush (q := 36) (v := (-103 : Int32)) dX10_seasons_34 rfl (by decide) ?_
              cases h
              exact ev_iret dX10_seasons_36 rfl rfl
            · rw [if_neg hc] at h
              refine ev_if_ne_t (q := 37) dX10_seasons_31 (by decide) hc ?_
              refine ev_iload_n (q := 38) dX10_seasons_37 rfl rfl ?_
              refine ev_istore (q := 40) dX10_seasons_38 rfl (by decide) ?_
              refine ev_iconst (q := 41) (v := (0 : Int32)) dX10_seasons_40 rfl (by decide) ?_
              refine ev_istore (q := 43) dX10_seasons_41 rfl (by decide) ?_
              refine ev_iconst (q := 44) (v := (0 : Int32)) dX10_seasons_43 rfl (by decide) ?_
              refine ev_istore (q := 46) dX10_seasons_44 rfl (by decide) ?_
              refine ev_iconst (q := 47) (v := (0 : Int32)) dX10_seasons_46 rfl (by decide) ?_
              refine ev_istore (q := 49) dX10_seasons_47 rfl (by decide) ?_
              replace h := Option.bind_eq_some_iff.mp h; obtain ⟨e13, he13, h⟩ := h
              refine ev_weak _ (mLe_some (mLe_some (mLe_none (mLe_some (mLe_some (mLe_some (mLe_some (mLe_some (mLe_none (mLe_none (mLe_none mLe_nil))))))))))) (e_X10_seasons_L49 (fun z => e13 = z) o v1 v3 w (fun e13q hq => ?_) mFuel v2 (0 : Int32) (0 : Int32) (0 : Int32) _ he13 rfl)
              subst hq
              refine ev_iload_n (q := 138) dX10_seasons_137 rfl rfl ?_
              refine ev_iconst (q := 139) (v := (2 : Int32)) dX10_seasons_138 rfl (by decide) ?_
              by_cases hc : v3 = (2 : Int32)
              · rw [if_pos hc] at h
                refine ev_icmp_ne_f (q := 142) (t0 := 145) dX10_seasons_139 (by decide) rfl hc ?_
                refine ev_iload (q := 144) dX10_seasons_142 rfl rfl ?_
                cases h
                exact ev_iret dX10_seasons_144 rfl rfl
              · rw [if_neg hc] at h
                refine ev_icmp_ne_t (q := 145) dX10_seasons_139 (by decide) hc ?_
                refine ev_iload_n (q := 146) dX10_seasons_145 rfl rfl ?_
                by_cases hc : v3 = 0
                · rw [if_pos hc] at h
                  refine ev_if_ne_f (q := 149) (t0 := 154) dX10_seasons_146 (by decide) rfl hc ?_
                  refine ev_iload (q := 151) dX10_seasons_149 rfl rfl ?_
                  refine ev_goto (q := 159) dX10_seasons_151 (by decide) ?_
                  exact ev_weak _ (mLe_none (mLe_none (mLe_none (mLe_none (mLe_none (mLe_none (mLe_none (mLe_none (mLe_none (mLe_none (mLe_none mLe_nil))))))))))) (e_X10_seasons_J159 e13.2.1 w _ h)
                · rw [if_neg hc] at h
                  refine ev_if_ne_t (q := 154) dX10_seasons_146 (by decide) hc ?_
                  refine ev_iload (q := 156) dX10_seasons_154 rfl rfl ?_
                  replace h := Option.bind_eq_some_iff.mp h; obtain ⟨r14, hr14, h⟩ := h
                  refine ev_invS (M1 := M_J6_bitCount_0f7a4) (as := [vi e13.2.2]) dX10_seasons_156 rfl tw_606 cal_J6_bitCount_0f7a4 tw_607 (by decide) rfl rfl (Nat.le_of_ble_eq_true rfl) (met_J6_bitCount_0f7a4 e13.2.2 w _ hr14) ?_
                  exact ev_weak _ (mLe_none (mLe_none (mLe_none (mLe_none (mLe_none (mLe_none (mLe_none (mLe_none (mLe_none (mLe_none (mLe_none mLe_nil))))))))))) (e_X10_seasons_J159 r14 w _ h)
          · rw [if_neg hc] at h
            refine ev_icmp_le_f (q := 24) (t0 := 27) dX10_seasons_21 (by decide) rfl hc ?_
            exact ev_weak _ (mLe_none (mLe_none (mLe_none (mLe_none (mLe_none (mLe_none (mLe_none (mLe_none (mLe_none (mLe_none (mLe_none mLe_nil))))))))))) (e_X10_seasons_J24 w _ h)
def f_X10_toss_J18 (w : mW) : Option (Int32 × mW) := some (((-101 : Int32), w))
set_option maxRecDepth 100000 in
set_option maxHeartbeats 4000000 in
theorem e_X10_toss_J18 {X : mXs} (w : mW) (res : Int32 × mW) (h : f_X10_toss_J18 w = some res) : mEv X M_X10_toss 4 (some (vi res.1)) res.2 18 [none, none, none, none, none] [] w := by
  unfold f_X10_toss_J18 at h
  refine ev_bipush (q := 20) (v := (-101 : Int32)) dX10_toss_18 rfl (by decide) ?_
  cases h
  exact ev_iret dX10_toss_20 rfl rfl
def f_X10_toss (o : Nat) (v1 : Int32) (v2 : Int32) (w : mW) : Option (Int32 × mW) := Option.bind (kO w (some o) 10) fun _ => Option.bind (f_X10_tosserAt o v1 w) fun r1 => oC r1 (f_X10_toss_J18 w) (fun a3 => Option.bind (kO w (some o) 10) fun _ => Option.bind (f_X10_isCell o v2 w) fun r4 => if r4 = 0 then (f_X10_toss_J18 w) else (Option.bind (gR w (some o) 10 3) fun r6 => Option.bind (gI w r6 2 9) fun r7 => Option.bind (dv_batter (some a3)  w) fun r8 => if r8 ≤ r7 then (Option.bind (gR w (some o) 10 3) fun r9 => Option.bind (gI w r9 2 11) fun r10 => if r10 < (999 : Int32) then (Option.bind (gR w (some o) 10 3) fun r11 => Option.bind (gI w r11 2 8) fun r12 => Option.bind (kO w (some o) 10) fun _ => Option.bind (f_X10_crowdUnder o v1 v2 r12 w) fun r13 => Option.bind (gR w (some o) 10 3) fun r15 => Option.bind (gI w r15 2 7) fun r16 => Option.bind (gR w (some o) 10 3) fun r17 => Option.bind (gI w r17 2 7) fun r18 => Option.bind (pI w r17 2 7 (r18 ||| (r13 &&& (r16 ^^^ (-1 : Int32))))) fun w19 => Option.bind (gR w19 (some o) 10 3) fun r20 => Option.bind (gI w19 r20 2 9) fun r21 => Option.bind (dv_batter (some a3)  w19) fun r22 => Option.bind (pI w19 r20 2 9 (r21 - r22)) fun w23 => Option.bind (gR w23 (some o) 10 3) fun r24 => Option.bind (gI w23 r24 2 11) fun r25 => Option.bind (pI w23 r24 2 11 (r25 + (1 : Int32))) fun w26 => Option.bind (gR w26 (some o) 10 3) fun r27 => Option.bind (gR w26 r27 2 5) fun r28 => Option.bind (gR w26 (some o) 10 3) fun r29 => Option.bind (gR w26 r29 2 5) fun r30 => Option.bind (f_X10_at r30 v1 w26) fun r31 => Option.bind (f_X10_put r28 v1 (r31 + (1 : Int32)) w26) fun w32 => Option.bind (f_J6_bitCount_0f7a4 (r13 &&& (r16 ^^^ (-1 : Int32))) w32) fun r33 => some ((r33, w32))) else (some (((-104 : Int32), w)))) else (some (((-103 : Int32), w)))))
set_option maxRecDepth 100000 in
set_option maxHeartbeats 4000000 in
theorem met_X10_toss (o : Nat) (v1 : Int32) (v2 : Int32) (w : mW) (res : Int32 × mW) (h : f_X10_toss o v1 v2 w = some res) : mMet M_X10_toss 4 [vr ((some o)), vi v1, vi v2] w (some (vi res.1)) res.2 := by
  refine ev_met (n := 2) (by decide) rfl fun X => ?_
  unfold f_X10_toss at h
  show mEv X M_X10_toss 4 _ _ 0 [some (vr ((some o))), some (vi v1), some (vi v2), none, none] [] w
  refine ev_aload_n (q := 1) dX10_toss_0 rfl rfl ?_
  refine ev_iload_n (q := 2) dX10_toss_1 rfl rfl ?_
  replace h := Option.bind_eq_some_iff.mp h; obtain ⟨q2, hq2, h⟩ := h
  obtain ⟨hxq2, fsq2, hkq2⟩ := kO_spec hq2
  cases hxq2
  replace h := Option.bind_eq_some_iff.mp h; obtain ⟨r1, hr1, h⟩ := h
  refine ev_invV (M1 := M_X10_tosserAt) (as := [vi v1]) (fs := fsq2) (ci := 10) dX10_toss_2 rfl tw_515 cal_X10_tosserAt tw_517 tw_12 (by decide) rfl rfl (Nat.le_of_ble_eq_true rfl) hkq2 rfl (met_X10_tosserAt o v1 w _ hr1) ?_
  refine ev_astore_n (q := 6) dX10_toss_5 rfl (by decide) ?_
  refine ev_aload_n (q := 7) dX10_toss_6 rfl rfl ?_
  rcases r1 with _ | a3
  · dsimp only [oC] at h
    refine ev_ifnull_t (q := 18) dX10_toss_7 (by decide) ?_
    exact ev_weak _ (mLe_none (mLe_none (mLe_none (mLe_none (mLe_none mLe_nil))))) (e_X10_toss_J18 w _ h)
  · dsimp only [oC] at h
    refine ev_ifnull_f (q := 10) dX10_toss_7 rfl ?_
    refine ev_aload_n (q := 11) dX10_toss_10 rfl rfl ?_
    refine ev_iload_n (q := 12) dX10_toss_11 rfl rfl ?_
    replace h := Option.bind_eq_some_iff.mp h; obtain ⟨q5, hq5, h⟩ := h
    obtain ⟨hxq5, fsq5, hkq5⟩ := kO_spec hq5
    cases hxq5
    replace h := Option.bind_eq_some_iff.mp h; obtain ⟨r4, hr4, h⟩ := h
    refine ev_invV (M1 := M_X10_isCell) (as := [vi v2]) (fs := fsq5) (ci := 10) dX10_toss_12 rfl tw_650 cal_X10_isCell tw_652 tw_21 (by decide) rfl rfl (Nat.le_of_ble_eq_true rfl) hkq5 rfl (met_X10_isCell o v2 w _ hr4) ?_
    by_cases hc : r4 = 0
    · rw [if_pos hc] at h
      refine ev_if_ne_f (q := 18) (t0 := 21) dX10_toss_15 (by decide) rfl hc ?_
      exact ev_weak _ (mLe_none (mLe_none (mLe_none (mLe_none (mLe_none mLe_nil))))) (e_X10_toss_J18 w _ h)
    · rw [if_neg hc] at h
      refine ev_if_ne_t (q := 21) dX10_toss_15 (by decide) hc ?_
      refine ev_aload_n (q := 22) dX10_toss_21 rfl rfl ?_
      replace h := Option.bind_eq_some_iff.mp h; obtain ⟨r6, hr6, h⟩ := h
      refine ev_gR dX10_toss_22 fl_X10_32 hr6 rfl ?_
      replace h := Option.bind_eq_some_iff.mp h; obtain ⟨r7, hr7, h⟩ := h
      refine ev_gI dX10_toss_25 fl_X10_159 hr7 rfl ?_
      refine ev_aload_n (q := 29) dX10_toss_28 rfl rfl ?_
      replace h := Option.bind_eq_some_iff.mp h; obtain ⟨r8, hr8, h⟩ := h
      refine ev_dv_batter dX10_toss_29 rfl tw_577 (by decide) (Nat.le_of_ble_eq_true rfl) hr8 ?_
      by_cases hc : r8 ≤ r7
      · rw [if_pos hc] at h
        refine ev_icmp_ge_t (q := 38) dX10_toss_32 (by decide) hc ?_
        refine ev_aload_n (q := 39) dX10_toss_38 rfl rfl ?_
        replace h := Option.bind_eq_some_iff.mp h; obtain ⟨r9, hr9, h⟩ := h
        refine ev_gR dX10_toss_39 fl_X10_32 hr9 rfl ?_
        replace h := Option.bind_eq_some_iff.mp h; obtain ⟨r10, hr10, h⟩ := h
        refine ev_gI dX10_toss_42 fl_X10_161 hr10 rfl ?_
        refine ev_sipush (q := 48) (v := (999 : Int32)) dX10_toss_45 rfl (by decide) ?_
        by_cases hc : r10 < (999 : Int32)
        · rw [if_pos hc] at h
          refine ev_icmp_lt_t (q := 54) dX10_toss_48 (by decide) hc ?_
          refine ev_aload_n (q := 55) dX10_toss_54 rfl rfl ?_
          refine ev_iload_n (q := 56) dX10_toss_55 rfl rfl ?_
          refine ev_iload_n (q := 57) dX10_toss_56 rfl rfl ?_
          refine ev_aload_n (q := 58) dX10_toss_57 rfl rfl ?_
          replace h := Option.bind_eq_some_iff.mp h; obtain ⟨r11, hr11, h⟩ := h
          refine ev_gR dX10_toss_58 fl_X10_32 hr11 rfl ?_
          replace h := Option.bind_eq_some_iff.mp h; obtain ⟨r12, hr12, h⟩ := h
          refine ev_gI dX10_toss_61 fl_X10_146 hr12 rfl ?_
          replace h := Option.bind_eq_some_iff.mp h; obtain ⟨q14, hq14, h⟩ := h
          obtain ⟨hxq14, fsq14, hkq14⟩ := kO_spec hq14
          cases hxq14
          replace h := Option.bind_eq_some_iff.mp h; obtain ⟨r13, hr13, h⟩ := h
          refine ev_invV (M1 := M_X10_crowdUnder) (as := [vi v1, vi v2, vi r12]) (fs := fsq14) (ci := 10) dX10_toss_64 rfl tw_602 cal_X10_crowdUnder tw_604 tw_18 (by decide) rfl rfl (Nat.le_of_ble_eq_true rfl) hkq14 rfl (met_X10_crowdUnder o v1 v2 r12 w _ hr13) ?_
          refine ev_aload_n (q := 68) dX10_toss_67 rfl rfl ?_
          replace h := Option.bind_eq_some_iff.mp h; obtain ⟨r15, hr15, h⟩ := h
          refine ev_gR dX10_toss_68 fl_X10_32 hr15 rfl ?_
          replace h := Option.bind_eq_some_iff.mp h; obtain ⟨r16, hr16, h⟩ := h
          refine ev_gI dX10_toss_71 fl_X10_86 hr16 rfl ?_
          refine ev_iconst (q := 75) (v := (-1 : Int32)) dX10_toss_74 rfl (by decide) ?_
          refine ev_ixor (q := 76) dX10_toss_75 rfl ?_
          refine ev_iand (q := 77) dX10_toss_76 rfl ?_
          refine ev_istore (q := 79) dX10_toss_77 rfl (by decide) ?_
          refine ev_aload_n (q := 80) dX10_toss_79 rfl rfl ?_
          replace h := Option.bind_eq_some_iff.mp h; obtain ⟨r17, hr17, h⟩ := h
          refine ev_gR dX10_toss_80 fl_X10_32 hr17 rfl ?_
          refine ev_dup (q := 84) dX10_toss_83 rfl rfl ?_
          replace h := Option.bind_eq_some_iff.mp h; obtain ⟨r18, hr18, h⟩ := h
          refine ev_gI dX10_toss_84 fl_X10_86 hr18 rfl ?_
          refine ev_iload (q := 89) dX10_toss_87 rfl rfl ?_
          refine ev_ior (q := 90) dX10_toss_89 rfl ?_
          replace h := Option.bind_eq_some_iff.mp h; obtain ⟨w19, hw19, h⟩ := h
          refine ev_pI dX10_toss_90 fp_X10_86 hw19 rfl ?_
          refine ev_aload_n (q := 94) dX10_toss_93 rfl rfl ?_
          replace h := Option.bind_eq_some_iff.mp h; obtain ⟨r20, hr20, h⟩ := h
          refine ev_gR dX10_toss_94 fl_X10_32 hr20 rfl ?_
          refine ev_dup (q := 98) dX10_toss_97 rfl rfl ?_
          replace h := Option.bind_eq_some_iff.mp h; obtain ⟨r21, hr21, h⟩ := h
          refine ev_gI dX10_toss_98 fl_X10_159 hr21 rfl ?_
          refine ev_aload_n (q := 102) dX10_toss_101 rfl rfl ?_
          replace h := Option.bind_eq_some_iff.mp h; obtain ⟨r22, hr22, h⟩ := h
          refine ev_dv_batter dX10_toss_102 rfl tw_577 (by decide) (Nat.le_of_ble_eq_true rfl) hr22 ?_
          refine ev_isub (q := 106) dX10_toss_105 rfl ?_
          replace h := Option.bind_eq_some_iff.mp h; obtain ⟨w23, hw23, h⟩ := h
          refine ev_pI dX10_toss_106 fp_X10_159 hw23 rfl ?_
          refine ev_aload_n (q := 110) dX10_toss_109 rfl rfl ?_
          replace h := Option.bind_eq_some_iff.mp h; obtain ⟨r24, hr24, h⟩ := h
          refine ev_gR dX10_toss_110 fl_X10_32 hr24 rfl ?_
          refine ev_dup (q := 114) dX10_toss_113 rfl rfl ?_
          replace h := Option.bind_eq_some_iff.mp h; obtain ⟨r25, hr25, h⟩ := h
          refine ev_gI dX10_toss_114 fl_X10_161 hr25 rfl ?_
          refine ev_iconst (q := 118) (v := (1 : Int32)) dX10_toss_117 rfl (by decide) ?_
          refine ev_iadd (q := 119) dX10_toss_118 rfl ?_
          replace h := Option.bind_eq_some_iff.mp h; obtain ⟨w26, hw26, h⟩ := h
          refine ev_pI dX10_toss_119 fp_X10_161 hw26 rfl ?_
          refine ev_aload_n (q := 123) dX10_toss_122 rfl rfl ?_
          replace h := Option.bind_eq_some_iff.mp h; obtain ⟨r27, hr27, h⟩ := h
          refine ev_gR dX10_toss_123 fl_X10_32 hr27 rfl ?_
          replace h := Option.bind_eq_some_iff.mp h; obtain ⟨r28, hr28, h⟩ := h
          refine ev_gR dX10_toss_126 fl_X10_135 hr28 rfl ?_
          refine ev_iload_n (q := 130) dX10_toss_129 rfl rfl ?_
          refine ev_aload_n (q := 131) dX10_toss_130 rfl rfl ?_
          replace h := Option.bind_eq_some_iff.mp h; obtain ⟨r29, hr29, h⟩ := h
          refine ev_gR dX10_toss_131 fl_X10_32 hr29 rfl ?_
          replace h := Option.bind_eq_some_iff.mp h; obtain ⟨r30, hr30, h⟩ := h
          refine ev_gR dX10_toss_134 fl_X10_135 hr30 rfl ?_
          refine ev_iload_n (q := 138) dX10_toss_137 rfl rfl ?_
          replace h := Option.bind_eq_some_iff.mp h; obtain ⟨r31, hr31, h⟩ := h
          refine ev_invS (M1 := M_X10_at) (as := [vr r30, vi v1]) dX10_toss_138 rfl tw_460 cal_X10_at tw_308 (by decide) rfl rfl (Nat.le_of_ble_eq_true rfl) (met_X10_at r30 v1 w26 _ hr31) ?_
          refine ev_iconst (q := 142) (v := (1 : Int32)) dX10_toss_141 rfl (by decide) ?_
          refine ev_iadd (q := 143) dX10_toss_142 rfl ?_
          replace h := Option.bind_eq_some_iff.mp h; obtain ⟨w32, hw32, h⟩ := h
          refine ev_invS (M1 := M_X10_put) (as := [vr r28, vi v1, vi (r31 + (1 : Int32))]) dX10_toss_143 rfl tw_456 cal_X10_put tw_293 (by decide) rfl rfl (Nat.le_of_ble_eq_true rfl) (met_X10_put r28 v1 (r31 + (1 : Int32)) w26 _ hw32) ?_
          refine ev_iload (q := 148) dX10_toss_146 rfl rfl ?_
          replace h := Option.bind_eq_some_iff.mp h; obtain ⟨r33, hr33, h⟩ := h
          refine ev_invS (M1 := M_J6_bitCount_0f7a4) (as := [vi (r13 &&& (r16 ^^^ (-1 : Int32)))]) dX10_toss_148 rfl tw_606 cal_J6_bitCount_0f7a4 tw_607 (by decide) rfl rfl (Nat.le_of_ble_eq_true rfl) (met_J6_bitCount_0f7a4 (r13 &&& (r16 ^^^ (-1 : Int32))) w32 _ hr33) ?_
          cases h
          exact ev_iret dX10_toss_151 rfl rfl
        · rw [if_neg hc] at h
          refine ev_icmp_lt_f (q := 51) (t0 := 54) dX10_toss_48 (by decide) rfl hc ?_
          refine ev_bipush (q := 53) (v := (-104 : Int32)) dX10_toss_51 rfl (by decide) ?_
          cases h
          exact ev_iret dX10_toss_53 rfl rfl
      · rw [if_neg hc] at h
        refine ev_icmp_ge_f (q := 35) (t0 := 38) dX10_toss_32 (by decide) rfl hc ?_
        refine ev_bipush (q := 37) (v := (-103 : Int32)) dX10_toss_35 rfl (by decide) ?_
        cases h
        exact ev_iret dX10_toss_37 rfl rfl
def f_X10_tosserOf (v0 : Int32) (w : mW) : Option (Option Nat × mW) := if v0 = 1 then (Option.bind (some (w ++ [.inl (0, new_X0)])) fun w1 => Option.bind (f_X0_init w.length  w1) fun r2 => some (((some w.length), w1))) else (if v0 = 2 then (Option.bind (some (w ++ [.inl (9, new_X9)])) fun w3 => Option.bind (f_X9_init w.length  w3) fun r4 => some (((some w.length), w3))) else (if v0 = 3 then (Option.bind (some (w ++ [.inl (7, new_X7)])) fun w5 => Option.bind (f_X7_init w.length  w5) fun r6 => some (((some w.length), w5))) else (if v0 = 4 then (Option.bind (some (w ++ [.inl (1, new_X1)])) fun w7 => Option.bind (f_X1_init w.length  w7) fun r8 => some (((some w.length), w7))) else (Option.bind (some (w ++ [.inl (8, new_X8)])) fun w9 => Option.bind (f_X8_init w.length  w9) fun r10 => some (((some w.length), w9))))))
set_option maxRecDepth 100000 in
set_option maxHeartbeats 4000000 in
theorem met_X10_tosserOf (v0 : Int32) (w : mW) (res : Option Nat × mW) (h : f_X10_tosserOf v0 w = some res) : mMet M_X10_tosserOf 4 [vi v0] w (some (vr res.1)) res.2 := by
  refine ev_met (n := 0) (by decide) rfl fun X => ?_
  unfold f_X10_tosserOf at h
  show mEv X M_X10_tosserOf 4 _ _ 0 [some (vi v0)] [] w
  refine ev_iload_n (q := 1) dX10_tosserOf_0 rfl rfl ?_
  by_cases hc1 : v0 = 1
  · rw [if_pos hc1] at h
    refine ev_table_in (q := 32) (off := 31) dX10_tosserOf_1 (by rw [hc1]; decide) (by rw [hc1]; decide) (by rw [hc1]; rfl) (by decide) ?_
    replace h := Option.bind_eq_some_iff.mp h; obtain ⟨w1, hw1, h⟩ := h
    cases hw1
    refine ev_new (ci := 0) (fs := new_X0) tyX0 dX10_tosserOf_32 rfl rfl inm_X0 tyX0_ok tw_464 tw_465 tw_76 rfl new_X0_ok ?_
    refine ev_dup (q := 36) dX10_tosserOf_35 rfl rfl ?_
    replace h := Option.bind_eq_some_iff.mp h; obtain ⟨r2, hr2, h⟩ := h
    refine ev_invIN (M1 := M_X0_init) (as := []) dX10_tosserOf_36 rfl tw_466 cal_X0_init tw_467 rfl rfl (by decide) rfl rfl (Nat.le_of_ble_eq_true rfl) (met_X0_init w.length  (w ++ [.inl (0, new_X0)]) _ hr2) ?_
    cases h
    exact ev_aret dX10_tosserOf_39 rfl
  · rw [if_neg hc1] at h
    by_cases hc2 : v0 = 2
    · rw [if_pos hc2] at h
      refine ev_table_in (q := 40) (off := 39) dX10_tosserOf_1 (by rw [hc2]; decide) (by rw [hc2]; decide) (by rw [hc2]; rfl) (by decide) ?_
      replace h := Option.bind_eq_some_iff.mp h; obtain ⟨w3, hw3, h⟩ := h
      cases hw3
      refine ev_new (ci := 9) (fs := new_X9) tyX9 dX10_tosserOf_40 rfl rfl inm_X9 tyX9_ok tw_474 tw_475 tw_77 rfl new_X9_ok ?_
      refine ev_dup (q := 44) dX10_tosserOf_43 rfl rfl ?_
      replace h := Option.bind_eq_some_iff.mp h; obtain ⟨r4, hr4, h⟩ := h
      refine ev_invIN (M1 := M_X9_init) (as := []) dX10_tosserOf_44 rfl tw_476 cal_X9_init tw_477 rfl rfl (by decide) rfl rfl (Nat.le_of_ble_eq_true rfl) (met_X9_init w.length  (w ++ [.inl (9, new_X9)]) _ hr4) ?_
      cases h
      exact ev_aret dX10_tosserOf_47 rfl
    · rw [if_neg hc2] at h
      by_cases hc3 : v0 = 3
      · rw [if_pos hc3] at h
        refine ev_table_in (q := 48) (off := 47) dX10_tosserOf_1 (by rw [hc3]; decide) (by rw [hc3]; decide) (by rw [hc3]; rfl) (by decide) ?_
        replace h := Option.bind_eq_some_iff.mp h; obtain ⟨w5, hw5, h⟩ := h
        cases hw5
        refine ev_new (ci := 7) (fs := new_X7) tyX7 dX10_tosserOf_48 rfl rfl inm_X7 tyX7_ok tw_481 tw_482 tw_78 rfl new_X7_ok ?_
        refine ev_dup (q := 52) dX10_tosserOf_51 rfl rfl ?_
        replace h := Option.bind_eq_some_iff.mp h; obtain ⟨r6, hr6, h⟩ := h
        refine ev_invIN (M1 := M_X7_init) (as := []) dX10_tosserOf_52 rfl tw_483 cal_X7_init tw_484 rfl rfl (by decide) rfl rfl (Nat.le_of_ble_eq_true rfl) (met_X7_init w.length  (w ++ [.inl (7, new_X7)]) _ hr6) ?_
        cases h
        exact ev_aret dX10_tosserOf_55 rfl
      · rw [if_neg hc3] at h
        by_cases hc4 : v0 = 4
        · rw [if_pos hc4] at h
          refine ev_table_in (q := 56) (off := 55) dX10_tosserOf_1 (by rw [hc4]; decide) (by rw [hc4]; decide) (by rw [hc4]; rfl) (by decide) ?_
          replace h := Option.bind_eq_some_iff.mp h; obtain ⟨w7, hw7, h⟩ := h
          cases hw7
          refine ev_new (ci := 1) (fs := new_X1) tyX1 dX10_tosserOf_56 rfl rfl inm_X1 tyX1_ok tw_488 tw_489 tw_79 rfl new_X1_ok ?_
          refine ev_dup (q := 60) dX10_tosserOf_59 rfl rfl ?_
          replace h := Option.bind_eq_some_iff.mp h; obtain ⟨r8, hr8, h⟩ := h
          refine ev_invIN (M1 := M_X1_init) (as := []) dX10_tosserOf_60 rfl tw_490 cal_X1_init tw_491 rfl rfl (by decide) rfl rfl (Nat.le_of_ble_eq_true rfl) (met_X1_init w.length  (w ++ [.inl (1, new_X1)]) _ hr8) ?_
          cases h
          exact ev_aret dX10_tosserOf_63 rfl
        · rw [if_neg hc4] at h
          refine ev_table_out (q := 64) dX10_tosserOf_1 (by have z1 := mNe (z := 1) (by decide) hc1; have z2 := mNe (z := 2) (by decide) hc2; have z3 := mNe (z := 3) (by decide) hc3; have z4 := mNe (z := 4) (by decide) hc4; omega) (by decide) ?_
          replace h := Option.bind_eq_some_iff.mp h; obtain ⟨w9, hw9, h⟩ := h
          cases hw9
          refine ev_new (ci := 8) (fs := new_X8) tyX8 dX10_tosserOf_64 rfl rfl inm_X8 tyX8_ok tw_144 tw_495 tw_75 rfl new_X8_ok ?_
          refine ev_dup (q := 68) dX10_tosserOf_67 rfl rfl ?_
          replace h := Option.bind_eq_some_iff.mp h; obtain ⟨r10, hr10, h⟩ := h
          refine ev_invIN (M1 := M_X8_init) (as := []) dX10_tosserOf_68 rfl tw_496 cal_X8_init tw_470 rfl rfl (by decide) rfl rfl (Nat.le_of_ble_eq_true rfl) (met_X8_init w.length  (w ++ [.inl (8, new_X8)]) _ hr10) ?_
          cases h
          exact ev_aret dX10_tosserOf_71 rfl
def f_X5_takesKind_J34 (s0 : Int32) (w : mW) : Option (Int32 × mW) := if s0 = 0 ∨ s0 = 1 then some ((s0, w)) else none
set_option maxRecDepth 100000 in
set_option maxHeartbeats 4000000 in
theorem e_X5_takesKind_J34 {X : mXs} (s0 : Int32) (w : mW) (res : Int32 × mW) (h : f_X5_takesKind_J34 s0 w = some res) : mEv X M_X5_takesKind 4 (some (vi res.1)) res.2 34 [none, none, none] [vi s0] w := by
  unfold f_X5_takesKind_J34 at h
  by_cases hz : s0 = 0 ∨ s0 = 1
  · rw [if_pos hz] at h
    cases h
    exact ev_zret dX5_takesKind_34 rfl hz
  · rw [if_neg hz] at h
    cases h
def f_X5_takesKind (o : Nat) (v1 : Int32) (w : mW) : Option (Int32 × mW) := Option.bind (f_J0_indexOf_0f7a4 ((v1.toUInt32 % 65536).toInt32) w) fun r1 => Option.bind (gR w (some o) 5 1) fun r2 => Option.bind (gI w (some o) 5 5) fun r3 => Option.bind (f_X10_put r2 r3 r1 w) fun w4 => Option.bind (pI w4 (some o) 5 7 (4 : Int32)) fun w5 => if r1 < 0 then (f_X5_takesKind_J34 (0 : Int32) w5) else (f_X5_takesKind_J34 (1 : Int32) w5)
set_option maxRecDepth 100000 in
set_option maxHeartbeats 4000000 in
theorem met_X5_takesKind (o : Nat) (v1 : Int32) (w : mW) (res : Int32 × mW) (h : f_X5_takesKind o v1 w = some res) : mMet M_X5_takesKind 4 [vr ((some o)), vi v1] w (some (vi res.1)) res.2 := by
  refine ev_met (n := 1) (by decide) rfl fun X => ?_
  unfold f_X5_takesKind at h
  show mEv X M_X5_takesKind 4 _ _ 0 [some (vr ((some o))), some (vi v1), none] [] w
  refine ev_ldcS rfl dX5_takesKind_0 rfl ?_
  refine ev_iload_n (q := 3) dX5_takesKind_2 rfl rfl ?_
  refine ev_i2c (q := 4) dX5_takesKind_3 rfl ?_
  replace h := Option.bind_eq_some_iff.mp h; obtain ⟨r1, hr1, h⟩ := h
  refine ev_invStr (M1 := M_J0_indexOf_0f7a4) (as := [vi ((v1.toUInt32 % 65536).toInt32)]) dX5_takesKind_4 rfl tw_335 rfl cal_J0_indexOf_0f7a4 tw_336 tw_337 (by decide) rfl rfl (Nat.le_of_ble_eq_true rfl) (met_J0_indexOf_0f7a4 ((v1.toUInt32 % 65536).toInt32) w _ hr1) ?_
  refine ev_istore_n (q := 8) dX5_takesKind_7 rfl (by decide) ?_
  refine ev_aload_n (q := 9) dX5_takesKind_8 rfl rfl ?_
  replace h := Option.bind_eq_some_iff.mp h; obtain ⟨r2, hr2, h⟩ := h
  refine ev_gR dX5_takesKind_9 fl_X5_15 hr2 rfl ?_
  refine ev_aload_n (q := 13) dX5_takesKind_12 rfl rfl ?_
  replace h := Option.bind_eq_some_iff.mp h; obtain ⟨r3, hr3, h⟩ := h
  refine ev_gI dX5_takesKind_13 fl_X5_28 hr3 rfl ?_
  refine ev_iload_n (q := 17) dX5_takesKind_16 rfl rfl ?_
  replace h := Option.bind_eq_some_iff.mp h; obtain ⟨w4, hw4, h⟩ := h
  refine ev_invSN (M1 := M_X10_put) (as := [vr r2, vi r3, vi r1]) dX5_takesKind_17 rfl tw_325 cal_X10_put tw_293 (by decide) rfl rfl (Nat.le_of_ble_eq_true rfl) (met_X10_put r2 r3 r1 w _ hw4) ?_
  refine ev_aload_n (q := 21) dX5_takesKind_20 rfl rfl ?_
  refine ev_iconst (q := 22) (v := (4 : Int32)) dX5_takesKind_21 rfl (by decide) ?_
  replace h := Option.bind_eq_some_iff.mp h; obtain ⟨w5, hw5, h⟩ := h
  refine ev_pI dX5_takesKind_22 fp_X5_31 hw5 rfl ?_
  refine ev_iload_n (q := 26) dX5_takesKind_25 rfl rfl ?_
  by_cases hc : r1 < 0
  · rw [if_pos hc] at h
    refine ev_if_lt_t (q := 33) dX5_takesKind_26 (by decide) hc ?_
    refine ev_iconst (q := 34) (v := (0 : Int32)) dX5_takesKind_33 rfl (by decide) ?_
    exact ev_weak _ (mLe_none (mLe_none (mLe_none mLe_nil))) (e_X5_takesKind_J34 (0 : Int32) w5 _ h)
  · rw [if_neg hc] at h
    refine ev_if_lt_f (q := 29) (t0 := 33) dX5_takesKind_26 (by decide) rfl hc ?_
    refine ev_iconst (q := 30) (v := (1 : Int32)) dX5_takesKind_29 rfl (by decide) ?_
    refine ev_goto (q := 34) dX5_takesKind_30 (by decide) ?_
    exact ev_weak _ (mLe_none (mLe_none (mLe_none mLe_nil))) (e_X5_takesKind_J34 (1 : Int32) w5 _ h)
def f_X11_coversOf_J42 (kc : Int32 → Int32 → Option (Int32)) (o : Nat) (v1 : Int32) (v2 : Int32) (v3 : Int32) (v5 : Int32) (s0 : Int32) (s1 : Int32) (w : mW) : Option (Int32) := kc (s0 ||| s1) (v5 + (1 : Int32))
set_option maxRecDepth 100000 in
set_option maxHeartbeats 4000000 in
theorem e_X11_coversOf_J42 {X : mXs} {r : Option mV} {w' : mW} (P : (Int32) → Prop) (o : Nat) (v1 : Int32) (v2 : Int32) (v3 : Int32) (v5 : Int32) (s0 : Int32) (s1 : Int32) (w : mW) (kc : Int32 → Int32 → Option (Int32)) (hk : ∀ (u4 : Int32) (u5 : Int32) (e : Int32), kc u4 u5 = some e → P e → mEv X M_X11_coversOf 4 r w' 6 [some (vr ((some o))), some (vi v1), some (vi v2), some (vi v3), some (vi u4), some (vi u5)] [] w) (e : Int32) (h : f_X11_coversOf_J42 kc o v1 v2 v3 v5 s0 s1 w = some e) (hP : P e) : mEv X M_X11_coversOf 4 r w' 42 [some (vr ((some o))), some (vi v1), some (vi v2), some (vi v3), none, some (vi v5)] [vi s1, vi s0] w := by
  unfold f_X11_coversOf_J42 at h
  refine ev_ior (q := 43) dX11_coversOf_42 rfl ?_
  refine ev_istore (q := 45) dX11_coversOf_43 rfl (by decide) ?_
  refine ev_iinc (q := 48) (v := v5 + (1 : Int32)) dX11_coversOf_45 rfl (by decide) rfl (by rfl) ?_
  refine ev_goto (q := 6) dX11_coversOf_48 (by decide) ?_
  exact ev_weak _ (mLe_some (mLe_some (mLe_some (mLe_some (mLe_some (mLe_some mLe_nil)))))) (hk (s0 ||| s1) (v5 + (1 : Int32)) _ h hP)
def f_X11_coversOf_L6 (o : Nat) (v1 : Int32) (v2 : Int32) (v3 : Int32) (w : mW) : Nat → Int32 → Int32 → Option (Int32)
  | 0, _, _ => none
  | n + 1, v4, v5 => Option.bind (gI w (some o) 11 3) fun r1 => if r1 ≤ v5 then (some (v4)) else (Option.bind (gR w (some o) 11 10) fun r2 => Option.bind (aL w r2 v5) fun r3 => Option.bind (kO w (some o) 11) fun _ => Option.bind (f_X11_coversCell o v1 v2 v3 r3 w) fun r4 => if r4 = 0 then (f_X11_coversOf_J42 (f_X11_coversOf_L6 o v1 v2 v3 w n) o v1 v2 v3 v5 v4 (0 : Int32) w) else (f_X11_coversOf_J42 (f_X11_coversOf_L6 o v1 v2 v3 w n) o v1 v2 v3 v5 v4 ((1 : Int32) <<< (v5 &&& 31)) w))
set_option maxRecDepth 100000 in
set_option maxHeartbeats 4000000 in
theorem e_X11_coversOf_L6 {X : mXs} {r : Option mV} {w' : mW} (P : (Int32) → Prop) (o : Nat) (v1 : Int32) (v2 : Int32) (v3 : Int32) (w : mW) (hexit : ∀ y, P y → mEv X M_X11_coversOf 4 r w' 51 [none, none, none, none, some (vi y), none] [] w) : ∀ (n : Nat) (v4 : Int32) (v5 : Int32) (e : Int32), f_X11_coversOf_L6 o v1 v2 v3 w n v4 v5 = some e → P e → mEv X M_X11_coversOf 4 r w' 6 [some (vr ((some o))), some (vi v1), some (vi v2), some (vi v3), some (vi v4), some (vi v5)] [] w := by
  intro n
  induction n with
  | zero =>
    intro v4 v5 e h hP
    rw [f_X11_coversOf_L6] at h
    cases h
  | succ n hk =>
    intro v4 v5 e h hP
    rw [f_X11_coversOf_L6] at h
    refine ev_iload (q := 8) dX11_coversOf_6 rfl rfl ?_
    refine ev_aload_n (q := 9) dX11_coversOf_8 rfl rfl ?_
    replace h := Option.bind_eq_some_iff.mp h; obtain ⟨r1, hr1, h⟩ := h
    refine ev_gI dX11_coversOf_9 fl_X11_116 hr1 rfl ?_
    by_cases hc : r1 ≤ v5
    · rw [if_pos hc] at h
      refine ev_icmp_ge_t (q := 51) dX11_coversOf_12 (by decide) hc ?_
      cases h
      exact ev_weak _ (mLe_none (mLe_none (mLe_none (mLe_none (mLe_some (mLe_none mLe_nil)))))) (hexit _ hP)
    · rw [if_neg hc] at h
      refine ev_icmp_ge_f (q := 15) (t0 := 51) dX11_coversOf_12 (by decide) rfl hc ?_
      refine ev_iload (q := 17) dX11_coversOf_15 rfl rfl ?_
      refine ev_aload_n (q := 18) dX11_coversOf_17 rfl rfl ?_
      refine ev_iload_n (q := 19) dX11_coversOf_18 rfl rfl ?_
      refine ev_iload_n (q := 20) dX11_coversOf_19 rfl rfl ?_
      refine ev_iload_n (q := 21) dX11_coversOf_20 rfl rfl ?_
      refine ev_aload_n (q := 22) dX11_coversOf_21 rfl rfl ?_
      replace h := Option.bind_eq_some_iff.mp h; obtain ⟨r2, hr2, h⟩ := h
      refine ev_gR dX11_coversOf_22 fl_X11_13 hr2 rfl ?_
      refine ev_iload (q := 27) dX11_coversOf_25 rfl rfl ?_
      replace h := Option.bind_eq_some_iff.mp h; obtain ⟨r3, hr3, h⟩ := h
      refine ev_aL dX11_coversOf_27 hr3 rfl ?_
      replace h := Option.bind_eq_some_iff.mp h; obtain ⟨q5, hq5, h⟩ := h
      obtain ⟨hxq5, fsq5, hkq5⟩ := kO_spec hq5
      cases hxq5
      replace h := Option.bind_eq_some_iff.mp h; obtain ⟨r4, hr4, h⟩ := h
      refine ev_invV (M1 := M_X11_coversCell) (as := [vi v1, vi v2, vi v3, vi r3]) (fs := fsq5) (ci := 11) dX11_coversOf_28 rfl tw_1023 cal_X11_coversCell tw_1025 tw_37 (by decide) rfl rfl (Nat.le_of_ble_eq_true rfl) hkq5 rfl (met_X11_coversCell o v1 v2 v3 r3 w _ hr4) ?_
      by_cases hc : r4 = 0
      · rw [if_pos hc] at h
        refine ev_if_eq_t (q := 41) dX11_coversOf_31 (by decide) hc ?_
        refine ev_iconst (q := 42) (v := (0 : Int32)) dX11_coversOf_41 rfl (by decide) ?_
        exact ev_weak _ (mLe_some (mLe_some (mLe_some (mLe_some (mLe_none (mLe_some mLe_nil)))))) (e_X11_coversOf_J42 P o v1 v2 v3 v5 v4 (0 : Int32) w _ hk  _ h hP)
      · rw [if_neg hc] at h
        refine ev_if_eq_f (q := 34) (t0 := 41) dX11_coversOf_31 (by decide) rfl hc ?_
        refine ev_iconst (q := 35) (v := (1 : Int32)) dX11_coversOf_34 rfl (by decide) ?_
        refine ev_iload (q := 37) dX11_coversOf_35 rfl rfl ?_
        refine ev_ishl (q := 38) dX11_coversOf_37 rfl ?_
        refine ev_goto (q := 42) dX11_coversOf_38 (by decide) ?_
        exact ev_weak _ (mLe_some (mLe_some (mLe_some (mLe_some (mLe_none (mLe_some mLe_nil)))))) (e_X11_coversOf_J42 P o v1 v2 v3 v5 v4 ((1 : Int32) <<< (v5 &&& 31)) w _ hk  _ h hP)
def f_X11_coversOf (o : Nat) (v1 : Int32) (v2 : Int32) (v3 : Int32) (w : mW) : Option (Int32) := Option.bind (f_X11_coversOf_L6 o v1 v2 v3 w mFuel (0 : Int32) (0 : Int32)) fun e6 => some (e6)
set_option maxRecDepth 100000 in
set_option maxHeartbeats 4000000 in
theorem met_X11_coversOf (o : Nat) (v1 : Int32) (v2 : Int32) (v3 : Int32) (w : mW) (res : Int32) (h : f_X11_coversOf o v1 v2 v3 w = some res) : mMet M_X11_coversOf 4 [vr ((some o)), vi v1, vi v2, vi v3] w (some (vi res)) w := by
  refine ev_met (n := 2) (by decide) rfl fun X => ?_
  unfold f_X11_coversOf at h
  show mEv X M_X11_coversOf 4 _ _ 0 [some (vr ((some o))), some (vi v1), some (vi v2), some (vi v3), none, none] [] w
  refine ev_iconst (q := 1) (v := (0 : Int32)) dX11_coversOf_0 rfl (by decide) ?_
  refine ev_istore (q := 3) dX11_coversOf_1 rfl (by decide) ?_
  refine ev_iconst (q := 4) (v := (0 : Int32)) dX11_coversOf_3 rfl (by decide) ?_
  refine ev_istore (q := 6) dX11_coversOf_4 rfl (by decide) ?_
  replace h := Option.bind_eq_some_iff.mp h; obtain ⟨e6, he6, h⟩ := h
  refine ev_weak _ (mLe_some (mLe_some (mLe_some (mLe_some (mLe_some (mLe_some mLe_nil)))))) (e_X11_coversOf_L6 (fun z => e6 = z) o v1 v2 v3 w (fun e6q hq => ?_) mFuel (0 : Int32) (0 : Int32) _ he6 rfl)
  subst hq
  refine ev_iload (q := 53) dX11_coversOf_51 rfl rfl ?_
  cases h
  exact ev_iret dX11_coversOf_53 rfl rfl
def f_X11_fault (o : Nat) (w : mW) : Option (Int32 × mW) := Option.bind (kO w (some o) 11) fun _ => Option.bind (f_X11_faultOf o  w) fun r1 => some ((r1.1, r1.2))
set_option maxRecDepth 100000 in
set_option maxHeartbeats 4000000 in
theorem met_X11_fault (o : Nat) (w : mW) (res : Int32 × mW) (h : f_X11_fault o w = some res) : mMet M_X11_fault 4 [vr ((some o))] w (some (vi res.1)) res.2 := by
  refine ev_met (n := 0) (by decide) rfl fun X => ?_
  unfold f_X11_fault at h
  show mEv X M_X11_fault 4 _ _ 0 [some (vr ((some o)))] [] w
  refine ev_aload_n (q := 1) dX11_fault_0 rfl rfl ?_
  replace h := Option.bind_eq_some_iff.mp h; obtain ⟨q2, hq2, h⟩ := h
  obtain ⟨hxq2, fsq2, hkq2⟩ := kO_spec hq2
  cases hxq2
  replace h := Option.bind_eq_some_iff.mp h; obtain ⟨r1, hr1, h⟩ := h
  refine ev_invV (M1 := M_X11_faultOf) (as := []) (fs := fsq2) (ci := 11) dX11_fault_1 rfl tw_965 cal_X11_faultOf tw_967 tw_29 (by decide) rfl rfl (Nat.le_of_ble_eq_true rfl) hkq2 rfl (met_X11_faultOf o  w _ hr1) ?_
  cases h
  exact ev_iret dX11_fault_4 rfl rfl
def f_X11_odds_J62 (kc : Int32 → Int32 → Option (Int32)) (o : Nat) (v1 : Int32) (v2 : Int32) (v3 : Int32) (v5 : Int32) (s0 : Int32) (s1 : Int32) (w : mW) : Option (Int32) := kc (s0 + s1) (v5 + (1 : Int32))
set_option maxRecDepth 100000 in
set_option maxHeartbeats 4000000 in
theorem e_X11_odds_J62 {X : mXs} {r : Option mV} {w' : mW} (P : (Int32) → Prop) (o : Nat) (v1 : Int32) (v2 : Int32) (v3 : Int32) (v5 : Int32) (s0 : Int32) (s1 : Int32) (w : mW) (kc : Int32 → Int32 → Option (Int32)) (hk : ∀ (u4 : Int32) (u5 : Int32) (e : Int32), kc u4 u5 = some e → P e → mEv X M_X11_odds 4 r w' 32 [some (vr ((some o))), some (vi v1), some (vi v2), some (vi v3), some (vi u4), some (vi u5)] [] w) (e : Int32) (h : f_X11_odds_J62 kc o v1 v2 v3 v5 s0 s1 w = some e) (hP : P e) : mEv X M_X11_odds 4 r w' 62 [some (vr ((some o))), some (vi v1), some (vi v2), some (vi v3), none, some (vi v5)] [vi s1, vi s0] w := by
  unfold f_X11_odds_J62 at h
  refine ev_iadd (q := 63) dX11_odds_62 rfl ?_
  refine ev_istore (q := 65) dX11_odds_63 rfl (by decide) ?_
  refine ev_iinc (q := 68) (v := v5 + (1 : Int32)) dX11_odds_65 rfl (by decide) rfl (by rfl) ?_
  refine ev_goto (q := 32) dX11_odds_68 (by decide) ?_
  exact ev_weak _ (mLe_some (mLe_some (mLe_some (mLe_some (mLe_some (mLe_some mLe_nil)))))) (hk (s0 + s1) (v5 + (1 : Int32)) _ h hP)
def f_X11_odds_L32 (o : Nat) (v1 : Int32) (v2 : Int32) (v3 : Int32) (w : mW) : Nat → Int32 → Int32 → Option (Int32)
  | 0, _, _ => none
  | n + 1, v4, v5 => if (2 : Int32) ≤ v5 then (some (v4)) else (Option.bind (gR w (some o) 11 10) fun r1 => Option.bind (aL w r1 v1) fun r2 => Option.bind (kO w (some o) 11) fun _ => Option.bind (f_X11_coversCell o v2 v3 v5 r2 w) fun r3 => if r3 = 0 then (f_X11_odds_J62 (f_X11_odds_L32 o v1 v2 v3 w n) o v1 v2 v3 v5 v4 (0 : Int32) w) else (f_X11_odds_J62 (f_X11_odds_L32 o v1 v2 v3 w n) o v1 v2 v3 v5 v4 (1 : Int32) w))
set_option maxRecDepth 100000 in
set_option maxHeartbeats 4000000 in
theorem e_X11_odds_L32 {X : mXs} {r : Option mV} {w' : mW} (P : (Int32) → Prop) (o : Nat) (v1 : Int32) (v2 : Int32) (v3 : Int32) (w : mW) (hexit : ∀ y, P y → mEv X M_X11_odds 4 r w' 71 [none, none, none, none, some (vi y), none] [] w) : ∀ (n : Nat) (v4 : Int32) (v5 : Int32) (e : Int32), f_X11_odds_L32 o v1 v2 v3 w n v4 v5 = some e → P e → mEv X M_X11_odds 4 r w' 32 [some (vr ((some o))), some (vi v1), some (vi v2), some (vi v3), some (vi v4), some (vi v5)] [] w := by
  intro n
  induction n with
  | zero =>
    intro v4 v5 e h hP
    rw [f_X11_odds_L32] at h
    cases h
  | succ n hk =>
    intro v4 v5 e h hP
    rw [f_X11_odds_L32] at h
    refine ev_iload (q := 34) dX11_odds_32 rfl rfl ?_
    refine ev_iconst (q := 35) (v := (2 : Int32)) dX11_odds_34 rfl (by decide) ?_
    by_cases hc : (2 : Int32) ≤ v5
    · rw [if_pos hc] at h
      refine ev_icmp_ge_t (q := 71) dX11_odds_35 (by decide) hc ?_
      cases h
      exact ev_weak _ (mLe_none (mLe_none (mLe_none (mLe_none (mLe_some (mLe_none mLe_nil)))))) (hexit _ hP)
    · rw [if_neg hc] at h
      refine ev_icmp_ge_f (q := 38) (t0 := 71) dX11_odds_35 (by decide) rfl hc ?_
      refine ev_iload (q := 40) dX11_odds_38 rfl rfl ?_
      refine ev_aload_n (q := 41) dX11_odds_40 rfl rfl ?_
      refine ev_iload_n (q := 42) dX11_odds_41 rfl rfl ?_
      refine ev_iload_n (q := 43) dX11_odds_42 rfl rfl ?_
      refine ev_iload (q := 45) dX11_odds_43 rfl rfl ?_
      refine ev_aload_n (q := 46) dX11_odds_45 rfl rfl ?_
      replace h := Option.bind_eq_some_iff.mp h; obtain ⟨r1, hr1, h⟩ := h
      refine ev_gR dX11_odds_46 fl_X11_13 hr1 rfl ?_
      refine ev_iload_n (q := 50) dX11_odds_49 rfl rfl ?_
      replace h := Option.bind_eq_some_iff.mp h; obtain ⟨r2, hr2, h⟩ := h
      refine ev_aL dX11_odds_50 hr2 rfl ?_
      replace h := Option.bind_eq_some_iff.mp h; obtain ⟨q4, hq4, h⟩ := h
      obtain ⟨hxq4, fsq4, hkq4⟩ := kO_spec hq4
      cases hxq4
      replace h := Option.bind_eq_some_iff.mp h; obtain ⟨r3, hr3, h⟩ := h
      refine ev_invV (M1 := M_X11_coversCell) (as := [vi v2, vi v3, vi v5, vi r2]) (fs := fsq4) (ci := 11) dX11_odds_51 rfl tw_1023 cal_X11_coversCell tw_1025 tw_37 (by decide) rfl rfl (Nat.le_of_ble_eq_true rfl) hkq4 rfl (met_X11_coversCell o v2 v3 v5 r2 w _ hr3) ?_
      by_cases hc : r3 = 0
      · rw [if_pos hc] at h
        refine ev_if_eq_t (q := 61) dX11_odds_54 (by decide) hc ?_
        refine ev_iconst (q := 62) (v := (0 : Int32)) dX11_odds_61 rfl (by decide) ?_
        exact ev_weak _ (mLe_some (mLe_some (mLe_some (mLe_some (mLe_none (mLe_some mLe_nil)))))) (e_X11_odds_J62 P o v1 v2 v3 v5 v4 (0 : Int32) w _ hk  _ h hP)
      · rw [if_neg hc] at h
        refine ev_if_eq_f (q := 57) (t0 := 61) dX11_odds_54 (by decide) rfl hc ?_
        refine ev_iconst (q := 58) (v := (1 : Int32)) dX11_odds_57 rfl (by decide) ?_
        refine ev_goto (q := 62) dX11_odds_58 (by decide) ?_
        exact ev_weak _ (mLe_some (mLe_some (mLe_some (mLe_some (mLe_none (mLe_some mLe_nil)))))) (e_X11_odds_J62 P o v1 v2 v3 v5 v4 (1 : Int32) w _ hk  _ h hP)
def f_X11_odds_J23 (w : mW) : Option (Int32) := some ((-101 : Int32))
set_option maxRecDepth 100000 in
set_option maxHeartbeats 4000000 in
theorem e_X11_odds_J23 {X : mXs} (w : mW) (res : Int32) (h : f_X11_odds_J23 w = some res) : mEv X M_X11_odds 4 (some (vi res)) w 23 [none, none, none, none, none, none] [] w := by
  unfold f_X11_odds_J23 at h
  refine ev_bipush (q := 25) (v := (-101 : Int32)) dX11_odds_23 rfl (by decide) ?_
  cases h
  exact ev_iret dX11_odds_25 rfl rfl
def f_X11_odds (o : Nat) (v1 : Int32) (v2 : Int32) (v3 : Int32) (w : mW) : Option (Int32) := Option.bind (kO w (some o) 11) fun _ => Option.bind (f_X11_isSleeper o v1 w) fun r5 => if r5 = 0 then (f_X11_odds_J23 w) else (Option.bind (kO w (some o) 11) fun _ => Option.bind (f_X11_isTosser o v2 w) fun r7 => if r7 = 0 then (f_X11_odds_J23 w) else (Option.bind (f_X11_isCell v3 w) fun r9 => if r9 = 0 then (f_X11_odds_J23 w) else (Option.bind (f_X11_odds_L32 o v1 v2 v3 w mFuel (0 : Int32) (-1 : Int32)) fun e10 => some (e10))))
set_option maxRecDepth 100000 in
set_option maxHeartbeats 4000000 in
theorem met_X11_odds (o : Nat) (v1 : Int32) (v2 : Int32) (v3 : Int32) (w : mW) (res : Int32) (h : f_X11_odds o v1 v2 v3 w = some res) : mMet M_X11_odds 4 [vr ((some o)), vi v1, vi v2, vi v3] w (some (vi res)) w := by
  refine ev_met (n := 2) (by decide) rfl fun X => ?_
  unfold f_X11_odds at h
  show mEv X M_X11_odds 4 _ _ 0 [some (vr ((some o))), some (vi v1), some (vi v2), some (vi v3), none, none] [] w
  refine ev_aload_n (q := 1) dX11_odds_0 rfl rfl ?_
  refine ev_iload_n (q := 2) dX11_odds_1 rfl rfl ?_
  replace h := Option.bind_eq_some_iff.mp h; obtain ⟨q6, hq6, h⟩ := h
  obtain ⟨hxq6, fsq6, hkq6⟩ := kO_spec hq6
  cases hxq6
  replace h := Option.bind_eq_some_iff.mp h; obtain ⟨r5, hr5, h⟩ := h
  refine ev_invV (M1 := M_X11_isSleeper) (as := [vi v1]) (fs := fsq6) (ci := 11) dX11_odds_2 rfl tw_1037 cal_X11_isSleeper tw_1039 tw_38 (by decide) rfl rfl (Nat.le_of_ble_eq_true rfl) hkq6 rfl (met_X11_isSleeper o v1 w _ hr5) ?_
  by_cases hc : r5 = 0
  · rw [if_pos hc] at h
    refine ev_if_eq_t (q := 23) dX11_odds_5 (by decide) hc ?_
    exact ev_weak _ (mLe_none (mLe_none (mLe_none (mLe_none (mLe_none (mLe_none mLe_nil)))))) (e_X11_odds_J23 w _ h)
  · rw [if_neg hc] at h
    refine ev_if_eq_f (q := 8) (t0 := 23) dX11_odds_5 (by decide) rfl hc ?_
    refine ev_aload_n (q := 9) dX11_odds_8 rfl rfl ?_
    refine ev_iload_n (q := 10) dX11_odds_9 rfl rfl ?_
    replace h := Option.bind_eq_some_iff.mp h; obtain ⟨q8, hq8, h⟩ := h
    obtain ⟨hxq8, fsq8, hkq8⟩ := kO_spec hq8
    cases hxq8
    replace h := Option.bind_eq_some_iff.mp h; obtain ⟨r7, hr7, h⟩ := h
    refine ev_invV (M1 := M_X11_isTosser) (as := [vi v2]) (fs := fsq8) (ci := 11) dX11_odds_10 rfl tw_999 cal_X11_isTosser tw_1001 tw_34 (by decide) rfl rfl (Nat.le_of_ble_eq_true rfl) hkq8 rfl (met_X11_isTosser o v2 w _ hr7) ?_
    by_cases hc : r7 = 0
    · rw [if_pos hc] at h
      refine ev_if_eq_t (q := 23) dX11_odds_13 (by decide) hc ?_
      exact ev_weak _ (mLe_none (mLe_none (mLe_none (mLe_none (mLe_none (mLe_none mLe_nil)))))) (e_X11_odds_J23 w _ h)
    · rw [if_neg hc] at h
      refine ev_if_eq_f (q := 16) (t0 := 23) dX11_odds_13 (by decide) rfl hc ?_
      refine ev_iload_n (q := 17) dX11_odds_16 rfl rfl ?_
      replace h := Option.bind_eq_some_iff.mp h; obtain ⟨r9, hr9, h⟩ := h
      refine ev_invS (M1 := M_X11_isCell) (as := [vi v3]) dX11_odds_17 rfl tw_1003 cal_X11_isCell tw_1004 (by decide) rfl rfl (Nat.le_of_ble_eq_true rfl) (met_X11_isCell v3 w _ hr9) ?_
      by_cases hc : r9 = 0
      · rw [if_pos hc] at h
        refine ev_if_ne_f (q := 23) (t0 := 26) dX11_odds_20 (by decide) rfl hc ?_
        exact ev_weak _ (mLe_none (mLe_none (mLe_none (mLe_none (mLe_none (mLe_none mLe_nil)))))) (e_X11_odds_J23 w _ h)
      · rw [if_neg hc] at h
        refine ev_if_ne_t (q := 26) dX11_odds_20 (by decide) hc ?_
        refine ev_iconst (q := 27) (v := (0 : Int32)) dX11_odds_26 rfl (by decide) ?_
        refine ev_istore (q := 29) dX11_odds_27 rfl (by decide) ?_
        refine ev_iconst (q := 30) (v := (-1 : Int32)) dX11_odds_29 rfl (by decide) ?_
        refine ev_istore (q := 32) dX11_odds_30 rfl (by decide) ?_
        replace h := Option.bind_eq_some_iff.mp h; obtain ⟨e10, he10, h⟩ := h
        refine ev_weak _ (mLe_some (mLe_some (mLe_some (mLe_some (mLe_some (mLe_some mLe_nil)))))) (e_X11_odds_L32 (fun z => e10 = z) o v1 v2 v3 w (fun e10q hq => ?_) mFuel (0 : Int32) (-1 : Int32) _ he10 rfl)
        subst hq
        refine ev_iload (q := 73) dX11_odds_71 rfl rfl ?_
        cases h
        exact ev_iret dX11_odds_73 rfl rfl
def f_X11_port_L114 (o : Nat) : Nat → Int32 → mW → Option (mW)
  | 0, _, _ => none
  | n + 1, v1, w => Option.bind (gI w (some o) 11 4) fun r1 => if r1 ≤ v1 then (some (w)) else (Option.bind (gI w (some o) 11 2) fun r2 => Option.bind (gR w (some o) 11 14) fun r3 => Option.bind (gR w (some o) 11 0) fun r4 => Option.bind (aL w r4 ((r2 + (1 : Int32)) + ((4 : Int32) * v1))) fun r5 => Option.bind (f_X11_kindBy r5 w) fun r6 => Option.bind (aS w r3 v1 r6) fun w7 => Option.bind (gR w7 (some o) 11 15) fun r8 => Option.bind (gR w7 (some o) 11 0) fun r9 => Option.bind (aL w7 r9 (((r2 + (1 : Int32)) + ((4 : Int32) * v1)) + (1 : Int32))) fun r10 => Option.bind (aS w7 r8 v1 (r10 - (48 : Int32))) fun w11 => Option.bind (gR w11 (some o) 11 16) fun r12 => Option.bind (gR w11 (some o) 11 0) fun r13 => Option.bind (aL w11 r13 (((r2 + (1 : Int32)) + ((4 : Int32) * v1)) + (2 : Int32))) fun r14 => Option.bind (aS w11 r12 v1 (r14 - (48 : Int32))) fun w15 => Option.bind (gR w15 (some o) 11 17) fun r16 => Option.bind (aS w15 r16 v1 (0 : Int32)) fun w17 => (f_X11_port_L114 o n) (v1 + (1 : Int32)) w17)
set_option maxRecDepth 100000 in
set_option maxHeartbeats 4000000 in
theorem e_X11_port_L114 {X : mXs} {r : Option mV} {w' : mW} (P : (mW) → Prop) (o : Nat) (hexit : ∀ y, P y → mEv X M_X11_port 4 r w' 195 [some (vr ((some o))), none, none] [] y) : ∀ (n : Nat) (v1 : Int32) (w : mW) (e : mW), f_X11_port_L114 o n v1 w = some e → P e → mEv X M_X11_port 4 r w' 114 [some (vr ((some o))), some (vi v1), none] [] w := by
  intro n
  induction n with
  | zero =>
    intro v1 w e h hP
    rw [f_X11_port_L114] at h
    cases h
  | succ n hk =>
    intro v1 w e h hP
    rw [f_X11_port_L114] at h
    refine ev_iload_n (q := 115) dX11_port_114 rfl rfl ?_
    refine ev_aload_n (q := 116) dX11_port_115 rfl rfl ?_
    replace h := Option.bind_eq_some_iff.mp h; obtain ⟨r1, hr1, h⟩ := h
    refine ev_gI dX11_port_116 fl_X11_119 hr1 rfl ?_
    by_cases hc : r1 ≤ v1
    · rw [if_pos hc] at h
      refine ev_icmp_ge_t (q := 195) dX11_port_119 (by decide) hc ?_
      cases h
      exact ev_weak _ (mLe_some (mLe_none (mLe_none mLe_nil))) (hexit _ hP)
    · rw [if_neg hc] at h
      refine ev_icmp_ge_f (q := 122) (t0 := 195) dX11_port_119 (by decide) rfl hc ?_
      refine ev_aload_n (q := 123) dX11_port_122 rfl rfl ?_
      replace h := Option.bind_eq_some_iff.mp h; obtain ⟨r2, hr2, h⟩ := h
      refine ev_gI dX11_port_123 fl_X11_98 hr2 rfl ?_
      refine ev_iconst (q := 127) (v := (1 : Int32)) dX11_port_126 rfl (by decide) ?_
      refine ev_iadd (q := 128) dX11_port_127 rfl ?_
      refine ev_iconst (q := 129) (v := (4 : Int32)) dX11_port_128 rfl (by decide) ?_
      refine ev_iload_n (q := 130) dX11_port_129 rfl rfl ?_
      refine ev_imul (q := 131) dX11_port_130 rfl ?_
      refine ev_iadd (q := 132) dX11_port_131 rfl ?_
      refine ev_istore_n (q := 133) dX11_port_132 rfl (by decide) ?_
      refine ev_aload_n (q := 134) dX11_port_133 rfl rfl ?_
      replace h := Option.bind_eq_some_iff.mp h; obtain ⟨r3, hr3, h⟩ := h
      refine ev_gR dX11_port_134 fl_X11_25 hr3 rfl ?_
      refine ev_iload_n (q := 138) dX11_port_137 rfl rfl ?_
      refine ev_aload_n (q := 139) dX11_port_138 rfl rfl ?_
      replace h := Option.bind_eq_some_iff.mp h; obtain ⟨r4, hr4, h⟩ := h
      refine ev_gR dX11_port_139 fl_X11_7 hr4 rfl ?_
      refine ev_iload_n (q := 143) dX11_port_142 rfl rfl ?_
      replace h := Option.bind_eq_some_iff.mp h; obtain ⟨r5, hr5, h⟩ := h
      refine ev_aL dX11_port_143 hr5 rfl ?_
      replace h := Option.bind_eq_some_iff.mp h; obtain ⟨r6, hr6, h⟩ := h
      refine ev_invS (M1 := M_X11_kindBy) (as := [vi r5]) dX11_port_144 rfl tw_987 cal_X11_kindBy tw_988 (by decide) rfl rfl (Nat.le_of_ble_eq_true rfl) (met_X11_kindBy r5 w _ hr6) ?_
      replace h := Option.bind_eq_some_iff.mp h; obtain ⟨w7, hw7, h⟩ := h
      refine ev_aS dX11_port_147 hw7 rfl ?_
      refine ev_aload_n (q := 149) dX11_port_148 rfl rfl ?_
      replace h := Option.bind_eq_some_iff.mp h; obtain ⟨r8, hr8, h⟩ := h
      refine ev_gR dX11_port_149 fl_X11_28 hr8 rfl ?_
      refine ev_iload_n (q := 153) dX11_port_152 rfl rfl ?_
      refine ev_aload_n (q := 154) dX11_port_153 rfl rfl ?_
      replace h := Option.bind_eq_some_iff.mp h; obtain ⟨r9, hr9, h⟩ := h
      refine ev_gR dX11_port_154 fl_X11_7 hr9 rfl ?_
      refine ev_iload_n (q := 158) dX11_port_157 rfl rfl ?_
      refine ev_iconst (q := 159) (v := (1 : Int32)) dX11_port_158 rfl (by decide) ?_
      refine ev_iadd (q := 160) dX11_port_159 rfl ?_
      replace h := Option.bind_eq_some_iff.mp h; obtain ⟨r10, hr10, h⟩ := h
      refine ev_aL dX11_port_160 hr10 rfl ?_
      refine ev_bipush (q := 163) (v := (48 : Int32)) dX11_port_161 rfl (by decide) ?_
      refine ev_isub (q := 164) dX11_port_163 rfl ?_
      replace h := Option.bind_eq_some_iff.mp h; obtain ⟨w11, hw11, h⟩ := h
      refine ev_aS dX11_port_164 hw11 rfl ?_
      refine ev_aload_n (q := 166) dX11_port_165 rfl rfl ?_
      replace h := Option.bind_eq_some_iff.mp h; obtain ⟨r12, hr12, h⟩ := h
      refine ev_gR dX11_port_166 fl_X11_31 hr12 rfl ?_
      refine ev_iload_n (q := 170) dX11_port_169 rfl rfl ?_
      refine ev_aload_n (q := 171) dX11_port_170 rfl rfl ?_
      replace h := Option.bind_eq_some_iff.mp h; obtain ⟨r13, hr13, h⟩ := h
      refine ev_gR dX11_port_171 fl_X11_7 hr13 rfl ?_
      refine ev_iload_n (q := 175) dX11_port_174 rfl rfl ?_
      refine ev_iconst (q := 176) (v := (2 : Int32)) dX11_port_175 rfl (by decide) ?_
      refine ev_iadd (q := 177) dX11_port_176 rfl ?_
      replace h := Option.bind_eq_some_iff.mp h; obtain ⟨r14, hr14, h⟩ := h
      refine ev_aL dX11_port_177 hr14 rfl ?_
      refine ev_bipush (q := 180) (v := (48 : Int32)) dX11_port_178 rfl (by decide) ?_
      refine ev_isub (q := 181) dX11_port_180 rfl ?_
      replace h := Option.bind_eq_some_iff.mp h; obtain ⟨w15, hw15, h⟩ := h
      refine ev_aS dX11_port_181 hw15 rfl ?_
      refine ev_aload_n (q := 183) dX11_port_182 rfl rfl ?_
      replace h := Option.bind_eq_some_iff.mp h; obtain ⟨r16, hr16, h⟩ := h
      refine ev_gR dX11_port_183 fl_X11_34 hr16 rfl ?_
      refine ev_iload_n (q := 187) dX11_port_186 rfl rfl ?_
      refine ev_iconst (q := 188) (v := (0 : Int32)) dX11_port_187 rfl (by decide) ?_
      replace h := Option.bind_eq_some_iff.mp h; obtain ⟨w17, hw17, h⟩ := h
      refine ev_aS dX11_port_188 hw17 rfl ?_
      refine ev_iinc (q := 192) (v := v1 + (1 : Int32)) dX11_port_189 rfl (by decide) rfl (by rfl) ?_
      refine ev_goto (q := 114) dX11_port_192 (by decide) ?_
      exact ev_weak _ (mLe_some (mLe_some (mLe_none mLe_nil))) (hk (v1 + (1 : Int32)) w17 _ h hP)
def f_X11_port_L64 (o : Nat) : Nat → Int32 → mW → Option (mW)
  | 0, _, _ => none
  | n + 1, v1, w => Option.bind (gI w (some o) 11 3) fun r18 => if r18 ≤ v1 then (some (w)) else (Option.bind (gR w (some o) 11 10) fun r19 => Option.bind (kO w (some o) 11) fun _ => Option.bind (f_X11_cellAt o ((3 : Int32) * v1) w) fun r20 => Option.bind (aS w r19 v1 r20) fun w22 => Option.bind (gR w22 (some o) 11 11) fun r23 => Option.bind (aS w22 r23 v1 (0 : Int32)) fun w24 => Option.bind (gR w24 (some o) 11 12) fun r25 => Option.bind (aS w24 r25 v1 (0 : Int32)) fun w26 => Option.bind (gR w26 (some o) 11 13) fun r27 => Option.bind (aS w26 r27 v1 (0 : Int32)) fun w28 => (f_X11_port_L64 o n) (v1 + (1 : Int32)) w28)
set_option maxRecDepth 100000 in
set_option maxHeartbeats 4000000 in
theorem e_X11_port_L64 {X : mXs} {r : Option mV} {w' : mW} (P : (mW) → Prop) (o : Nat) (hexit : ∀ y, P y → mEv X M_X11_port 4 r w' 112 [some (vr ((some o))), none, none] [] y) : ∀ (n : Nat) (v1 : Int32) (w : mW) (e : mW), f_X11_port_L64 o n v1 w = some e → P e → mEv X M_X11_port 4 r w' 64 [some (vr ((some o))), some (vi v1), none] [] w := by
  intro n
  induction n with
  | zero =>
    intro v1 w e h hP
    rw [f_X11_port_L64] at h
    cases h
  | succ n hk =>
    intro v1 w e h hP
    rw [f_X11_port_L64] at h
    refine ev_iload_n (q := 65) dX11_port_64 rfl rfl ?_
    refine ev_aload_n (q := 66) dX11_port_65 rfl rfl ?_
    replace h := Option.bind_eq_some_iff.mp h; obtain ⟨r18, hr18, h⟩ := h
    refine ev_gI dX11_port_66 fl_X11_116 hr18 rfl ?_
    by_cases hc : r18 ≤ v1
    · rw [if_pos hc] at h
      refine ev_icmp_ge_t (q := 112) dX11_port_69 (by decide) hc ?_
      cases h
      exact ev_weak _ (mLe_some (mLe_none (mLe_none mLe_nil))) (hexit _ hP)
    · rw [if_neg hc] at h
      refine ev_icmp_ge_f (q := 72) (t0 := 112) dX11_port_69 (by decide) rfl hc ?_
      refine ev_aload_n (q := 73) dX11_port_72 rfl rfl ?_
      replace h := Option.bind_eq_some_iff.mp h; obtain ⟨r19, hr19, h⟩ := h
      refine ev_gR dX11_port_73 fl_X11_13 hr19 rfl ?_
      refine ev_iload_n (q := 77) dX11_port_76 rfl rfl ?_
      refine ev_aload_n (q := 78) dX11_port_77 rfl rfl ?_
      refine ev_iconst (q := 79) (v := (3 : Int32)) dX11_port_78 rfl (by decide) ?_
      refine ev_iload_n (q := 80) dX11_port_79 rfl rfl ?_
      refine ev_imul (q := 81) dX11_port_80 rfl ?_
      replace h := Option.bind_eq_some_iff.mp h; obtain ⟨q21, hq21, h⟩ := h
      obtain ⟨hxq21, fsq21, hkq21⟩ := kO_spec hq21
      cases hxq21
      replace h := Option.bind_eq_some_iff.mp h; obtain ⟨r20, hr20, h⟩ := h
      refine ev_invV (M1 := M_X11_cellAt) (as := [vi ((3 : Int32) * v1)]) (fs := fsq21) (ci := 11) dX11_port_81 rfl tw_979 cal_X11_cellAt tw_981 tw_32 (by decide) rfl rfl (Nat.le_of_ble_eq_true rfl) hkq21 rfl (met_X11_cellAt o ((3 : Int32) * v1) w _ hr20) ?_
      replace h := Option.bind_eq_some_iff.mp h; obtain ⟨w22, hw22, h⟩ := h
      refine ev_aS dX11_port_84 hw22 rfl ?_
      refine ev_aload_n (q := 86) dX11_port_85 rfl rfl ?_
      replace h := Option.bind_eq_some_iff.mp h; obtain ⟨r23, hr23, h⟩ := h
      refine ev_gR dX11_port_86 fl_X11_16 hr23 rfl ?_
      refine ev_iload_n (q := 90) dX11_port_89 rfl rfl ?_
      refine ev_iconst (q := 91) (v := (0 : Int32)) dX11_port_90 rfl (by decide) ?_
      replace h := Option.bind_eq_some_iff.mp h; obtain ⟨w24, hw24, h⟩ := h
      refine ev_aS dX11_port_91 hw24 rfl ?_
      refine ev_aload_n (q := 93) dX11_port_92 rfl rfl ?_
      replace h := Option.bind_eq_some_iff.mp h; obtain ⟨r25, hr25, h⟩ := h
      refine ev_gR dX11_port_93 fl_X11_19 hr25 rfl ?_
      refine ev_iload_n (q := 97) dX11_port_96 rfl rfl ?_
      refine ev_iconst (q := 98) (v := (0 : Int32)) dX11_port_97 rfl (by decide) ?_
      replace h := Option.bind_eq_some_iff.mp h; obtain ⟨w26, hw26, h⟩ := h
      refine ev_aS dX11_port_98 hw26 rfl ?_
      refine ev_aload_n (q := 100) dX11_port_99 rfl rfl ?_
      replace h := Option.bind_eq_some_iff.mp h; obtain ⟨r27, hr27, h⟩ := h
      refine ev_gR dX11_port_100 fl_X11_22 hr27 rfl ?_
      refine ev_iload_n (q := 104) dX11_port_103 rfl rfl ?_
      refine ev_iconst (q := 105) (v := (0 : Int32)) dX11_port_104 rfl (by decide) ?_
      replace h := Option.bind_eq_some_iff.mp h; obtain ⟨w28, hw28, h⟩ := h
      refine ev_aS dX11_port_105 hw28 rfl ?_
      refine ev_iinc (q := 109) (v := v1 + (1 : Int32)) dX11_port_106 rfl (by decide) rfl (by rfl) ?_
      refine ev_goto (q := 64) dX11_port_109 (by decide) ?_
      exact ev_weak _ (mLe_some (mLe_some (mLe_none mLe_nil))) (hk (v1 + (1 : Int32)) w28 _ h hP)
def f_X11_port_J32 (w : mW) : Option (Int32 × mW) := some (((-103 : Int32), w))
set_option maxRecDepth 100000 in
set_option maxHeartbeats 4000000 in
theorem e_X11_port_J32 {X : mXs} (w : mW) (res : Int32 × mW) (h : f_X11_port_J32 w = some res) : mEv X M_X11_port 4 (some (vi res.1)) res.2 32 [none, none, none] [] w := by
  unfold f_X11_port_J32 at h
  refine ev_bipush (q := 34) (v := (-103 : Int32)) dX11_port_32 rfl (by decide) ?_
  cases h
  exact ev_iret dX11_port_34 rfl rfl
def f_X11_port (o : Nat) (w : mW) : Option (Int32 × mW) := Option.bind (kO w (some o) 11) fun _ => Option.bind (f_X11_faultOf o  w) fun r29 => Option.bind (gI r29.2 (some o) 11 1) fun r31 => if r29.1 < r31 then (f_X11_port_J32 r29.2) else (Option.bind (gI r29.2 (some o) 11 2) fun r32 => if r32 = 0 then (f_X11_port_J32 r29.2) else (Option.bind (gI r29.2 (some o) 11 1) fun r33 => Option.bind (gI r29.2 (some o) 11 2) fun r34 => if (r33 - r34) - (r33 - r34) / (4 : Int32) * (4 : Int32) = 0 then (Option.bind (gI r29.2 (some o) 11 2) fun r35 => Option.bind (pI r29.2 (some o) 11 3 ((r35 + (1 : Int32)) / (3 : Int32))) fun w36 => Option.bind (gI w36 (some o) 11 1) fun r37 => Option.bind (gI w36 (some o) 11 2) fun r38 => Option.bind (pI w36 (some o) 11 4 ((r37 - r38) / (4 : Int32))) fun w39 => Option.bind (f_X11_port_L64 o mFuel (0 : Int32) w39) fun e40 => Option.bind (f_X11_port_L114 o mFuel (0 : Int32) e40) fun e41 => Option.bind (pI e41 (some o) 11 5 (0 : Int32)) fun w42 => Option.bind (pI w42 (some o) 11 6 (60 : Int32)) fun w43 => Option.bind (pI w43 (some o) 11 7 (0 : Int32)) fun w44 => Option.bind (pI w44 (some o) 11 8 (0 : Int32)) fun w45 => Option.bind (pI w45 (some o) 11 22 (0 : Int32)) fun w46 => Option.bind (gI w46 (some o) 11 9) fun r47 => Option.bind (pI w46 (some o) 11 9 (r47 + (1 : Int32))) fun w48 => Option.bind (pI w48 (some o) 11 1 (0 : Int32)) fun w49 => Option.bind (gI w49 (some o) 11 3) fun r50 => some ((r50, w49))) else (f_X11_port_J32 r29.2)))
set_option maxRecDepth 100000 in
set_option maxHeartbeats 4000000 in
theorem met_X11_port (o : Nat) (w : mW) (res : Int32 × mW) (h : f_X11_port o w = some res) : mMet M_X11_port 4 [vr ((some o))] w (some (vi res.1)) res.2 := by
  refine ev_met (n := 2) (by decide) rfl fun X => ?_
  unfold f_X11_port at h
  show mEv X M_X11_port 4 _ _ 0 [some (vr ((some o))), none, none] [] w
  refine ev_aload_n (q := 1) dX11_port_0 rfl rfl ?_
  replace h := Option.bind_eq_some_iff.mp h; obtain ⟨q30, hq30, h⟩ := h
  obtain ⟨hxq30, fsq30, hkq30⟩ := kO_spec hq30
  cases hxq30
  replace h := Option.bind_eq_some_iff.mp h; obtain ⟨r29, hr29, h⟩ := h
  refine ev_invV (M1 := M_X11_faultOf) (as := []) (fs := fsq30) (ci := 11) dX11_port_1 rfl tw_965 cal_X11_faultOf tw_967 tw_29 (by decide) rfl rfl (Nat.le_of_ble_eq_true rfl) hkq30 rfl (met_X11_faultOf o  w _ hr29) ?_
  refine ev_aload_n (q := 5) dX11_port_4 rfl rfl ?_
  replace h := Option.bind_eq_some_iff.mp h; obtain ⟨r31, hr31, h⟩ := h
  refine ev_gI dX11_port_5 fl_X11_83 hr31 rfl ?_
  by_cases hc : r29.1 < r31
  · rw [if_pos hc] at h
    refine ev_icmp_lt_t (q := 32) dX11_port_8 (by decide) hc ?_
    exact ev_weak _ (mLe_none (mLe_none (mLe_none mLe_nil))) (e_X11_port_J32 r29.2 _ h)
  · rw [if_neg hc] at h
    refine ev_icmp_lt_f (q := 11) (t0 := 32) dX11_port_8 (by decide) rfl hc ?_
    refine ev_aload_n (q := 12) dX11_port_11 rfl rfl ?_
    replace h := Option.bind_eq_some_iff.mp h; obtain ⟨r32, hr32, h⟩ := h
    refine ev_gI dX11_port_12 fl_X11_98 hr32 rfl ?_
    by_cases hc : r32 = 0
    · rw [if_pos hc] at h
      refine ev_if_eq_t (q := 32) dX11_port_15 (by decide) hc ?_
      exact ev_weak _ (mLe_none (mLe_none (mLe_none mLe_nil))) (e_X11_port_J32 r29.2 _ h)
    · rw [if_neg hc] at h
      refine ev_if_eq_f (q := 18) (t0 := 32) dX11_port_15 (by decide) rfl hc ?_
      refine ev_aload_n (q := 19) dX11_port_18 rfl rfl ?_
      replace h := Option.bind_eq_some_iff.mp h; obtain ⟨r33, hr33, h⟩ := h
      refine ev_gI dX11_port_19 fl_X11_83 hr33 rfl ?_
      refine ev_aload_n (q := 23) dX11_port_22 rfl rfl ?_
      replace h := Option.bind_eq_some_iff.mp h; obtain ⟨r34, hr34, h⟩ := h
      refine ev_gI dX11_port_23 fl_X11_98 hr34 rfl ?_
      refine ev_isub (q := 27) dX11_port_26 rfl ?_
      refine ev_iconst (q := 28) (v := (4 : Int32)) dX11_port_27 rfl (by decide) ?_
      refine ev_irem (q := 29) dX11_port_28 rfl (by decide) ?_
      by_cases hc : (r33 - r34) - (r33 - r34) / (4 : Int32) * (4 : Int32) = 0
      · rw [if_pos hc] at h
        refine ev_if_eq_t (q := 35) dX11_port_29 (by decide) hc ?_
        refine ev_aload_n (q := 36) dX11_port_35 rfl rfl ?_
        refine ev_aload_n (q := 37) dX11_port_36 rfl rfl ?_
        replace h := Option.bind_eq_some_iff.mp h; obtain ⟨r35, hr35, h⟩ := h
        refine ev_gI dX11_port_37 fl_X11_98 hr35 rfl ?_
        refine ev_iconst (q := 41) (v := (1 : Int32)) dX11_port_40 rfl (by decide) ?_
        refine ev_iadd (q := 42) dX11_port_41 rfl ?_
        refine ev_iconst (q := 43) (v := (3 : Int32)) dX11_port_42 rfl (by decide) ?_
        refine ev_idiv (q := 44) dX11_port_43 rfl (by decide) ?_
        replace h := Option.bind_eq_some_iff.mp h; obtain ⟨w36, hw36, h⟩ := h
        refine ev_pI dX11_port_44 fp_X11_116 hw36 rfl ?_
        refine ev_aload_n (q := 48) dX11_port_47 rfl rfl ?_
        refine ev_aload_n (q := 49) dX11_port_48 rfl rfl ?_
        replace h := Option.bind_eq_some_iff.mp h; obtain ⟨r37, hr37, h⟩ := h
        refine ev_gI dX11_port_49 fl_X11_83 hr37 rfl ?_
        refine ev_aload_n (q := 53) dX11_port_52 rfl rfl ?_
        replace h := Option.bind_eq_some_iff.mp h; obtain ⟨r38, hr38, h⟩ := h
        refine ev_gI dX11_port_53 fl_X11_98 hr38 rfl ?_
        refine ev_isub (q := 57) dX11_port_56 rfl ?_
        refine ev_iconst (q := 58) (v := (4 : Int32)) dX11_port_57 rfl (by decide) ?_
        refine ev_idiv (q := 59) dX11_port_58 rfl (by decide) ?_
        replace h := Option.bind_eq_some_iff.mp h; obtain ⟨w39, hw39, h⟩ := h
        refine ev_pI dX11_port_59 fp_X11_119 hw39 rfl ?_
        refine ev_iconst (q := 63) (v := (0 : Int32)) dX11_port_62 rfl (by decide) ?_
        refine ev_istore_n (q := 64) dX11_port_63 rfl (by decide) ?_
        replace h := Option.bind_eq_some_iff.mp h; obtain ⟨e40, he40, h⟩ := h
        refine ev_weak _ (mLe_some (mLe_some (mLe_none mLe_nil))) (e_X11_port_L64 (fun z => e40 = z) o (fun e40q hq => ?_) mFuel (0 : Int32) w39 _ he40 rfl)
        subst hq
        refine ev_iconst (q := 113) (v := (0 : Int32)) dX11_port_112 rfl (by decide) ?_
        refine ev_istore_n (q := 114) dX11_port_113 rfl (by decide) ?_
        replace h := Option.bind_eq_some_iff.mp h; obtain ⟨e41, he41, h⟩ := h
        refine ev_weak _ (mLe_some (mLe_some (mLe_none mLe_nil))) (e_X11_port_L114 (fun z => e41 = z) o (fun e41q hq => ?_) mFuel (0 : Int32) e40 _ he41 rfl)
        subst hq
        refine ev_aload_n (q := 196) dX11_port_195 rfl rfl ?_
        refine ev_iconst (q := 197) (v := (0 : Int32)) dX11_port_196 rfl (by decide) ?_
        replace h := Option.bind_eq_some_iff.mp h; obtain ⟨w42, hw42, h⟩ := h
        refine ev_pI dX11_port_197 fp_X11_122 hw42 rfl ?_
        refine ev_aload_n (q := 201) dX11_port_200 rfl rfl ?_
        refine ev_bipush (q := 203) (v := (60 : Int32)) dX11_port_201 rfl (by decide) ?_
        replace h := Option.bind_eq_some_iff.mp h; obtain ⟨w43, hw43, h⟩ := h
        refine ev_pI dX11_port_203 fp_X11_125 hw43 rfl ?_
        refine ev_aload_n (q := 207) dX11_port_206 rfl rfl ?_
        refine ev_iconst (q := 208) (v := (0 : Int32)) dX11_port_207 rfl (by decide) ?_
        replace h := Option.bind_eq_some_iff.mp h; obtain ⟨w44, hw44, h⟩ := h
        refine ev_pI dX11_port_208 fp_X11_128 hw44 rfl ?_
        refine ev_aload_n (q := 212) dX11_port_211 rfl rfl ?_
        refine ev_iconst (q := 213) (v := (0 : Int32)) dX11_port_212 rfl (by decide) ?_
        replace h := Option.bind_eq_some_iff.mp h; obtain ⟨w45, hw45, h⟩ := h
        refine ev_pI dX11_port_213 fp_X11_131 hw45 rfl ?_
        refine ev_aload_n (q := 217) dX11_port_216 rfl rfl ?_
        refine ev_iconst (q := 218) (v := (0 : Int32)) dX11_port_217 rfl (by decide) ?_
        replace h := Option.bind_eq_some_iff.mp h; obtain ⟨w46, hw46, h⟩ := h
        refine ev_pI dX11_port_218 fp_X11_134 hw46 rfl ?_
        refine ev_aload_n (q := 222) dX11_port_221 rfl rfl ?_
        refine ev_dup (q := 223) dX11_port_222 rfl rfl ?_
        replace h := Option.bind_eq_some_iff.mp h; obtain ⟨r47, hr47, h⟩ := h
        refine ev_gI dX11_port_223 fl_X11_137 hr47 rfl ?_
        refine ev_iconst (q := 227) (v := (1 : Int32)) dX11_port_226 rfl (by decide) ?_
        refine ev_iadd (q := 228) dX11_port_227 rfl ?_
        replace h := Option.bind_eq_some_iff.mp h; obtain ⟨w48, hw48, h⟩ := h
        refine ev_pI dX11_port_228 fp_X11_137 hw48 rfl ?_
        refine ev_aload_n (q := 232) dX11_port_231 rfl rfl ?_
        refine ev_iconst (q := 233) (v := (0 : Int32)) dX11_port_232 rfl (by decide) ?_
        replace h := Option.bind_eq_some_iff.mp h; obtain ⟨w49, hw49, h⟩ := h
        refine ev_pI dX11_port_233 fp_X11_83 hw49 rfl ?_
        refine ev_aload_n (q := 237) dX11_port_236 rfl rfl ?_
        replace h := Option.bind_eq_some_iff.mp h; obtain ⟨r50, hr50, h⟩ := h
        refine ev_gI dX11_port_237 fl_X11_116 hr50 rfl ?_
        cases h
        exact ev_iret dX11_port_240 rfl rfl
      · rw [if_neg hc] at h
        refine ev_if_eq_f (q := 32) (t0 := 35) dX11_port_29 (by decide) rfl hc ?_
        exact ev_weak _ (mLe_none (mLe_none (mLe_none mLe_nil))) (e_X11_port_J32 r29.2 _ h)
