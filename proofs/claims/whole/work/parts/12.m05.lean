def f_X11_wind (o : Nat) (v1 : Int32) (w : mW) : Option (Int32 × mW) := Option.bind (f_X11_in v1.toInt64 (-1 : Int64) (1 : Int64) w) fun r1 => if r1 = 0 then (some (((-102 : Int32), w))) else (Option.bind (kO w (some o) 11) fun _ => Option.bind (f_X11_lacks o  w) fun r2 => if r2 = 0 then (Option.bind (gI w (some o) 11 5) fun r4 => Option.bind (pI w (some o) 11 5 v1) fun w5 => some ((r4 + (1 : Int32), w5))) else (some (((-103 : Int32), w))))
set_option maxRecDepth 100000 in
set_option maxHeartbeats 4000000 in
theorem met_X11_wind (o : Nat) (v1 : Int32) (w : mW) (res : Int32 × mW) (h : f_X11_wind o v1 w = some res) : mMet M_X11_wind 1 [vr ((some o)), vi v1] w (some (vi res.1)) res.2 := by
  refine ev_met (n := 1) (by decide) rfl fun X => ?_
  unfold f_X11_wind at h
  show mEv X M_X11_wind 1 _ _ 0 [some (vr ((some o))), some (vi v1), none] [] w
  refine ev_iload_n (q := 1) dX11_wind_0 rfl rfl ?_
  refine ev_i2l (q := 2) dX11_wind_1 rfl ?_
  refine ev_ldc2 (q := 5) (v := (-1 : Int64)) dX11_wind_2 rfl tw_1103 ?_
  refine ev_lconst (q := 6) (v := (1 : Int64)) dX11_wind_5 rfl (by decide) ?_
  replace h := Option.bind_eq_some_iff.mp h; obtain ⟨r1, hr1, h⟩ := h
  refine ev_invS (M1 := M_X11_in) (as := [vl v1.toInt64, vl ((-1 : Int64)), vl ((1 : Int64))]) dX11_wind_6 rfl tw_954 cal_X11_in tw_955 (by decide) rfl rfl (Nat.le_of_ble_eq_true rfl) (met_X11_in v1.toInt64 (-1 : Int64) (1 : Int64) w _ hr1) ?_
  by_cases hc : r1 = 0
  · rw [if_pos hc] at h
    refine ev_if_ne_f (q := 12) (t0 := 15) dX11_wind_9 (by decide) rfl hc ?_
    refine ev_bipush (q := 14) (v := (-102 : Int32)) dX11_wind_12 rfl (by decide) ?_
    cases h
    exact ev_iret dX11_wind_14 rfl rfl
  · rw [if_neg hc] at h
    refine ev_if_ne_t (q := 15) dX11_wind_9 (by decide) hc ?_
    refine ev_aload_n (q := 16) dX11_wind_15 rfl rfl ?_
    replace h := Option.bind_eq_some_iff.mp h; obtain ⟨q3, hq3, h⟩ := h
    obtain ⟨hxq3, fsq3, hkq3⟩ := kO_spec hq3
    cases hxq3
    replace h := Option.bind_eq_some_iff.mp h; obtain ⟨r2, hr2, h⟩ := h
    refine ev_invV (M1 := M_X11_lacks) (as := []) (fs := fsq3) (ci := 11) dX11_wind_16 rfl tw_1104 cal_X11_lacks tw_1106 tw_48 (by decide) rfl rfl (Nat.le_of_ble_eq_true rfl) hkq3 rfl (met_X11_lacks o  w _ hr2) ?_
    by_cases hc : r2 = 0
    · rw [if_pos hc] at h
      refine ev_if_eq_t (q := 25) dX11_wind_19 (by decide) hc ?_
      refine ev_aload_n (q := 26) dX11_wind_25 rfl rfl ?_
      replace h := Option.bind_eq_some_iff.mp h; obtain ⟨r4, hr4, h⟩ := h
      refine ev_gI dX11_wind_26 fl_X11_122 hr4 rfl ?_
      refine ev_istore_n (q := 30) dX11_wind_29 rfl (by decide) ?_
      refine ev_aload_n (q := 31) dX11_wind_30 rfl rfl ?_
      refine ev_iload_n (q := 32) dX11_wind_31 rfl rfl ?_
      replace h := Option.bind_eq_some_iff.mp h; obtain ⟨w5, hw5, h⟩ := h
      refine ev_pI dX11_wind_32 fp_X11_122 hw5 rfl ?_
      refine ev_iload_n (q := 36) dX11_wind_35 rfl rfl ?_
      refine ev_iconst (q := 37) (v := (1 : Int32)) dX11_wind_36 rfl (by decide) ?_
      refine ev_iadd (q := 38) dX11_wind_37 rfl ?_
      cases h
      exact ev_iret dX11_wind_38 rfl rfl
    · rw [if_neg hc] at h
      refine ev_if_eq_f (q := 22) (t0 := 25) dX11_wind_19 (by decide) rfl hc ?_
      refine ev_bipush (q := 24) (v := (-103 : Int32)) dX11_wind_22 rfl (by decide) ?_
      cases h
      exact ev_iret dX11_wind_24 rfl rfl
def f_J0_length_8abf5  (w : mW) : Option (Int32) := Option.bind (f_J0_coder_7d493  w) fun r1 => some ((5 : Int32) >>> (r1 &&& 31))
set_option maxRecDepth 100000 in
set_option maxHeartbeats 4000000 in
theorem met_J0_length_8abf5  (w : mW) (res : Int32) (h : f_J0_length_8abf5  w = some res) : mMet M_J0_length_8abf5 1 [vx 1] w (some (vi res)) w := by
  refine ev_met (n := 0) (by decide) rfl fun X => ?_
  unfold f_J0_length_8abf5 at h
  show mEv X M_J0_length_8abf5 1 _ _ 0 [some (vx 1)] [] w
  refine ev_aload_n (q := 1) dJ0_length_8abf5_0 rfl rfl ?_
  refine ev_value (q := 4) dJ0_length_8abf5_1 rfl tw_1237 ?_
  refine ev_blen (q := 5) dJ0_length_8abf5_4 rfl ?_
  refine ev_aload_n (q := 6) dJ0_length_8abf5_5 rfl rfl ?_
  replace h := Option.bind_eq_some_iff.mp h; obtain ⟨r1, hr1, h⟩ := h
  refine ev_invStr (M1 := M_J0_coder_7d493) (as := []) dJ0_length_8abf5_6 rfl tw_353 rfl cal_J0_coder_7d493 tw_354 tw_355 (by decide) rfl rfl (Nat.le_of_ble_eq_true rfl) (met_J0_coder_7d493  w _ hr1) ?_
  refine ev_ishr (q := 10) dJ0_length_8abf5_9 rfl ?_
  cases h
  exact ev_iret dJ0_length_8abf5_10 rfl rfl
def f_J1_indexOf_4cfef (v1 : Int32) (v2 : Int32) (v3 : Int32) (w : mW) : Option (Int32) := Option.bind (f_J1_canEncode_9a6ad v1 w) fun r1 => if r1 = 0 then (some ((-1 : Int32))) else (if (if v2 < (0 : Int32) then (0 : Int32) else v2) < (if (5 : Int32) < v3 then (5 : Int32) else v3) then (Option.bind (f_J1_indexOfChar_4cfef v1 (if v2 < (0 : Int32) then (0 : Int32) else v2) (if (5 : Int32) < v3 then (5 : Int32) else v3) w) fun r2 => some (r2)) else (some ((-1 : Int32))))
set_option maxRecDepth 100000 in
set_option maxHeartbeats 4000000 in
theorem met_J1_indexOf_4cfef (v1 : Int32) (v2 : Int32) (v3 : Int32) (w : mW) (res : Int32) (h : f_J1_indexOf_4cfef v1 v2 v3 w = some res) : mMet M_J1_indexOf_4cfef 1 [vx 2, vi v1, vi v2, vi v3] w (some (vi res)) w := by
  refine ev_met (n := 0) (by decide) rfl fun X => ?_
  unfold f_J1_indexOf_4cfef at h
  show mEv X M_J1_indexOf_4cfef 1 _ _ 0 [some (vx 2), some (vi v1), some (vi v2), some (vi v3)] [] w
  refine ev_iload_n (q := 1) dJ1_indexOf_4cfef_0 rfl rfl ?_
  replace h := Option.bind_eq_some_iff.mp h; obtain ⟨r1, hr1, h⟩ := h
  refine ev_invS (M1 := M_J1_canEncode_9a6ad) (as := [vi v1]) dJ1_indexOf_4cfef_1 rfl tw_360 cal_J1_canEncode_9a6ad tw_361 (by decide) rfl rfl (Nat.le_of_ble_eq_true rfl) (met_J1_canEncode_9a6ad v1 w _ hr1) ?_
  by_cases hc : r1 = 0
  · rw [if_pos hc] at h
    refine ev_if_ne_f (q := 7) (t0 := 9) dJ1_indexOf_4cfef_4 (by decide) rfl hc ?_
    refine ev_iconst (q := 8) (v := (-1 : Int32)) dJ1_indexOf_4cfef_7 rfl (by decide) ?_
    cases h
    exact ev_iret dJ1_indexOf_4cfef_8 rfl rfl
  · rw [if_neg hc] at h
    refine ev_if_ne_t (q := 9) dJ1_indexOf_4cfef_4 (by decide) hc ?_
    refine ev_iload_n (q := 10) dJ1_indexOf_4cfef_9 rfl rfl ?_
    refine ev_iconst (q := 11) (v := (0 : Int32)) dJ1_indexOf_4cfef_10 rfl (by decide) ?_
    refine ev_mmax (q := 14) dJ1_indexOf_4cfef_11 rfl tw_363 tw_364 tw_mathi tw_365 (by decide) (Nat.le_of_ble_eq_true rfl) ?_
    refine ev_istore_n (q := 15) dJ1_indexOf_4cfef_14 rfl (by decide) ?_
    refine ev_iload_n (q := 16) dJ1_indexOf_4cfef_15 rfl rfl ?_
    refine ev_aload_n (q := 17) dJ1_indexOf_4cfef_16 rfl rfl ?_
    refine ev_blen (q := 18) dJ1_indexOf_4cfef_17 rfl ?_
    refine ev_mmin (q := 21) dJ1_indexOf_4cfef_18 rfl tw_366 tw_367 tw_mathi tw_368 (by decide) (Nat.le_of_ble_eq_true rfl) ?_
    refine ev_istore_n (q := 22) dJ1_indexOf_4cfef_21 rfl (by decide) ?_
    refine ev_iload_n (q := 23) dJ1_indexOf_4cfef_22 rfl rfl ?_
    refine ev_iload_n (q := 24) dJ1_indexOf_4cfef_23 rfl rfl ?_
    by_cases hc : (if v2 < (0 : Int32) then (0 : Int32) else v2) < (if (5 : Int32) < v3 then (5 : Int32) else v3)
    · rw [if_pos hc] at h
      refine ev_icmp_lt_t (q := 29) dJ1_indexOf_4cfef_24 (by decide) hc ?_
      refine ev_aload_n (q := 30) dJ1_indexOf_4cfef_29 rfl rfl ?_
      refine ev_iload_n (q := 31) dJ1_indexOf_4cfef_30 rfl rfl ?_
      refine ev_iload_n (q := 32) dJ1_indexOf_4cfef_31 rfl rfl ?_
      refine ev_iload_n (q := 33) dJ1_indexOf_4cfef_32 rfl rfl ?_
      replace h := Option.bind_eq_some_iff.mp h; obtain ⟨r2, hr2, h⟩ := h
      refine ev_invS (M1 := M_J1_indexOfChar_4cfef) (as := [vx 2, vi v1, vi ((if v2 < (0 : Int32) then (0 : Int32) else v2)), vi ((if (5 : Int32) < v3 then (5 : Int32) else v3))]) dJ1_indexOf_4cfef_33 rfl tw_369 cal_J1_indexOfChar_4cfef tw_370 (by decide) rfl rfl (Nat.le_of_ble_eq_true rfl) (met_J1_indexOfChar_4cfef v1 (if v2 < (0 : Int32) then (0 : Int32) else v2) (if (5 : Int32) < v3 then (5 : Int32) else v3) w _ hr2) ?_
      cases h
      exact ev_iret dJ1_indexOf_4cfef_36 rfl rfl
    · rw [if_neg hc] at h
      refine ev_icmp_lt_f (q := 27) (t0 := 29) dJ1_indexOf_4cfef_24 (by decide) rfl hc ?_
      refine ev_iconst (q := 28) (v := (-1 : Int32)) dJ1_indexOf_4cfef_27 rfl (by decide) ?_
      cases h
      exact ev_iret dJ1_indexOf_4cfef_28 rfl rfl
def f_X10_canLandAt_L2 (o : Nat) (v1 : Int32) (v2 : Int32) (w : mW) : Nat → Int32 → Option ((Int32) ⊕ (Unit))
  | 0, _ => none
  | n + 1, v3 => if (36 : Int32) ≤ v3 then (some (.inr ())) else (Option.bind (gR w (some o) 10 3) fun r1 => Option.bind (gI w r1 2 8) fun r2 => Option.bind (kO w (some o) 10) fun _ => Option.bind (f_X10_landing o v1 v3 r2 w) fun r3 => if r3 = v2 then (some (.inl (1 : Int32))) else ((f_X10_canLandAt_L2 o v1 v2 w n) (v3 + (1 : Int32))))
set_option maxRecDepth 100000 in
set_option maxHeartbeats 4000000 in
theorem e_X10_canLandAt_L2 {X : mXs} {r : Option mV} {w' : mW} (P : ((Int32) ⊕ (Unit)) → Prop) (o : Nat) (v1 : Int32) (v2 : Int32) (w : mW) (hret : ∀ y, P (.inl y) → r = (some (vi y)) ∧ w' = w) (hexit : ∀ y, P (.inr y) → mEv X M_X10_canLandAt 2 r w' 33 [none, none, none, none] [] w) : ∀ (n : Nat) (v3 : Int32) (e : (Int32) ⊕ (Unit)), f_X10_canLandAt_L2 o v1 v2 w n v3 = some e → P e → mEv X M_X10_canLandAt 2 r w' 2 [some (vr ((some o))), some (vi v1), some (vi v2), some (vi v3)] [] w := by
  intro n
  induction n with
  | zero =>
    intro v3 e h hP
    rw [f_X10_canLandAt_L2] at h
    cases h
  | succ n hk =>
    intro v3 e h hP
    rw [f_X10_canLandAt_L2] at h
    refine ev_iload_n (q := 3) dX10_canLandAt_2 rfl rfl ?_
    refine ev_bipush (q := 5) (v := (36 : Int32)) dX10_canLandAt_3 rfl (by decide) ?_
    by_cases hc : (36 : Int32) ≤ v3
    · rw [if_pos hc] at h
      refine ev_icmp_ge_t (q := 33) dX10_canLandAt_5 (by decide) hc ?_
      cases h
      exact ev_weak _ (mLe_none (mLe_none (mLe_none (mLe_none mLe_nil)))) (hexit _ hP)
    · rw [if_neg hc] at h
      refine ev_icmp_ge_f (q := 8) (t0 := 33) dX10_canLandAt_5 (by decide) rfl hc ?_
      refine ev_aload_n (q := 9) dX10_canLandAt_8 rfl rfl ?_
      refine ev_iload_n (q := 10) dX10_canLandAt_9 rfl rfl ?_
      refine ev_iload_n (q := 11) dX10_canLandAt_10 rfl rfl ?_
      refine ev_aload_n (q := 12) dX10_canLandAt_11 rfl rfl ?_
      replace h := Option.bind_eq_some_iff.mp h; obtain ⟨r1, hr1, h⟩ := h
      refine ev_gR dX10_canLandAt_12 fl_X10_32 hr1 rfl ?_
      replace h := Option.bind_eq_some_iff.mp h; obtain ⟨r2, hr2, h⟩ := h
      refine ev_gI dX10_canLandAt_15 fl_X10_146 hr2 rfl ?_
      replace h := Option.bind_eq_some_iff.mp h; obtain ⟨q4, hq4, h⟩ := h
      obtain ⟨hxq4, fsq4, hkq4⟩ := kO_spec hq4
      cases hxq4
      replace h := Option.bind_eq_some_iff.mp h; obtain ⟨r3, hr3, h⟩ := h
      refine ev_invV (M1 := M_X10_landing) (as := [vi v1, vi v3, vi r2]) (fs := fsq4) (ci := 10) dX10_canLandAt_18 rfl tw_519 cal_X10_landing tw_521 tw_13 (by decide) rfl rfl (Nat.le_of_ble_eq_true rfl) hkq4 rfl (met_X10_landing o v1 v3 r2 w _ hr3) ?_
      refine ev_iload_n (q := 22) dX10_canLandAt_21 rfl rfl ?_
      by_cases hc : r3 = v2
      · rw [if_pos hc] at h
        refine ev_icmp_ne_f (q := 25) (t0 := 27) dX10_canLandAt_22 (by decide) rfl hc ?_
        refine ev_iconst (q := 26) (v := (1 : Int32)) dX10_canLandAt_25 rfl (by decide) ?_
        cases h
        obtain ⟨hr1, hr2⟩ := hret _ hP
        subst hr1
        subst hr2
        exact ev_zret dX10_canLandAt_26 rfl (Or.inr rfl)
      · rw [if_neg hc] at h
        refine ev_icmp_ne_t (q := 27) dX10_canLandAt_22 (by decide) hc ?_
        refine ev_iinc (q := 30) (v := v3 + (1 : Int32)) dX10_canLandAt_27 rfl (by decide) rfl (by rfl) ?_
        refine ev_goto (q := 2) dX10_canLandAt_30 (by decide) ?_
        exact ev_weak _ (mLe_some (mLe_some (mLe_some (mLe_some mLe_nil)))) (hk (v3 + (1 : Int32)) _ h hP)
def f_X10_canLandAt (o : Nat) (v1 : Int32) (v2 : Int32) (w : mW) : Option (Int32) := Option.bind (f_X10_canLandAt_L2 o v1 v2 w mFuel (0 : Int32)) fun e5 => match e5 with | .inl y7 => some y7 | .inr y6 => some ((0 : Int32))
set_option maxRecDepth 100000 in
set_option maxHeartbeats 4000000 in
theorem met_X10_canLandAt (o : Nat) (v1 : Int32) (v2 : Int32) (w : mW) (res : Int32) (h : f_X10_canLandAt o v1 v2 w = some res) : mMet M_X10_canLandAt 2 [vr ((some o)), vi v1, vi v2] w (some (vi res)) w := by
  refine ev_met (n := 1) (by decide) rfl fun X => ?_
  unfold f_X10_canLandAt at h
  show mEv X M_X10_canLandAt 2 _ _ 0 [some (vr ((some o))), some (vi v1), some (vi v2), none] [] w
  refine ev_iconst (q := 1) (v := (0 : Int32)) dX10_canLandAt_0 rfl (by decide) ?_
  refine ev_istore_n (q := 2) dX10_canLandAt_1 rfl (by decide) ?_
  replace h := Option.bind_eq_some_iff.mp h; obtain ⟨e5, he5, h⟩ := h
  refine ev_weak _ (mLe_some (mLe_some (mLe_some (mLe_some mLe_nil)))) (e_X10_canLandAt_L2 (fun z => e5 = z) o v1 v2 w (fun y7 hq => ?_) (fun y6 hq => ?_) mFuel (0 : Int32) _ he5 rfl)
  · subst hq
    dsimp only at h
    cases h
    exact ⟨rfl, rfl⟩
  · subst hq
    dsimp only at h
    refine ev_iconst (q := 34) (v := (0 : Int32)) dX10_canLandAt_33 rfl (by decide) ?_
    cases h
    exact ev_zret dX10_canLandAt_34 rfl (Or.inl rfl)
def f_X10_isToss_J21 (s0 : Int32) (w : mW) : Option (Int32) := if s0 = 0 ∨ s0 = 1 then some (s0) else none
set_option maxRecDepth 100000 in
set_option maxHeartbeats 4000000 in
theorem e_X10_isToss_J21 {X : mXs} (s0 : Int32) (w : mW) (res : Int32) (h : f_X10_isToss_J21 s0 w = some res) : mEv X M_X10_isToss 2 (some (vi res)) w 21 [none, none, none] [vi s0] w := by
  unfold f_X10_isToss_J21 at h
  by_cases hz : s0 = 0 ∨ s0 = 1
  · rw [if_pos hz] at h
    cases h
    exact ev_zret dX10_isToss_21 rfl hz
  · rw [if_neg hz] at h
    cases h
def f_X10_isToss_J20 (w : mW) : Option (Int32) := f_X10_isToss_J21 (0 : Int32) w
set_option maxRecDepth 100000 in
set_option maxHeartbeats 4000000 in
theorem e_X10_isToss_J20 {X : mXs} (w : mW) (res : Int32) (h : f_X10_isToss_J20 w = some res) : mEv X M_X10_isToss 2 (some (vi res)) w 20 [none, none, none] [] w := by
  unfold f_X10_isToss_J20 at h
  refine ev_iconst (q := 21) (v := (0 : Int32)) dX10_isToss_20 rfl (by decide) ?_
  exact ev_weak _ (mLe_none (mLe_none (mLe_none mLe_nil))) (e_X10_isToss_J21 (0 : Int32) w _ h)
def f_X10_isToss (o : Nat) (v1 : Int32) (v2 : Int32) (w : mW) : Option (Int32) := Option.bind (kO w (some o) 10) fun _ => Option.bind (f_X10_tosserAt o v1 w) fun r1 => oC r1 (f_X10_isToss_J20 w) (fun a3 => Option.bind (kO w (some o) 10) fun _ => Option.bind (f_X10_isCell o v2 w) fun r4 => if r4 = 0 then (f_X10_isToss_J20 w) else (f_X10_isToss_J21 (1 : Int32) w))
set_option maxRecDepth 100000 in
set_option maxHeartbeats 4000000 in
theorem met_X10_isToss (o : Nat) (v1 : Int32) (v2 : Int32) (w : mW) (res : Int32) (h : f_X10_isToss o v1 v2 w = some res) : mMet M_X10_isToss 2 [vr ((some o)), vi v1, vi v2] w (some (vi res)) w := by
  refine ev_met (n := 0) (by decide) rfl fun X => ?_
  unfold f_X10_isToss at h
  show mEv X M_X10_isToss 2 _ _ 0 [some (vr ((some o))), some (vi v1), some (vi v2)] [] w
  refine ev_aload_n (q := 1) dX10_isToss_0 rfl rfl ?_
  refine ev_iload_n (q := 2) dX10_isToss_1 rfl rfl ?_
  replace h := Option.bind_eq_some_iff.mp h; obtain ⟨q2, hq2, h⟩ := h
  obtain ⟨hxq2, fsq2, hkq2⟩ := kO_spec hq2
  cases hxq2
  replace h := Option.bind_eq_some_iff.mp h; obtain ⟨r1, hr1, h⟩ := h
  refine ev_invV (M1 := M_X10_tosserAt) (as := [vi v1]) (fs := fsq2) (ci := 10) dX10_isToss_2 rfl tw_515 cal_X10_tosserAt tw_517 tw_12 (by decide) rfl rfl (Nat.le_of_ble_eq_true rfl) hkq2 rfl (met_X10_tosserAt o v1 w _ hr1) ?_
  rcases r1 with _ | a3
  · dsimp only [oC] at h
    refine ev_ifnull_t (q := 20) dX10_isToss_5 (by decide) ?_
    exact ev_weak _ (mLe_none (mLe_none (mLe_none mLe_nil))) (e_X10_isToss_J20 w _ h)
  · dsimp only [oC] at h
    refine ev_ifnull_f (q := 8) dX10_isToss_5 rfl ?_
    refine ev_aload_n (q := 9) dX10_isToss_8 rfl rfl ?_
    refine ev_iload_n (q := 10) dX10_isToss_9 rfl rfl ?_
    replace h := Option.bind_eq_some_iff.mp h; obtain ⟨q5, hq5, h⟩ := h
    obtain ⟨hxq5, fsq5, hkq5⟩ := kO_spec hq5
    cases hxq5
    replace h := Option.bind_eq_some_iff.mp h; obtain ⟨r4, hr4, h⟩ := h
    refine ev_invV (M1 := M_X10_isCell) (as := [vi v2]) (fs := fsq5) (ci := 10) dX10_isToss_10 rfl tw_650 cal_X10_isCell tw_652 tw_21 (by decide) rfl rfl (Nat.le_of_ble_eq_true rfl) hkq5 rfl (met_X10_isCell o v2 w _ hr4) ?_
    by_cases hc : r4 = 0
    · rw [if_pos hc] at h
      refine ev_if_eq_t (q := 20) dX10_isToss_13 (by decide) hc ?_
      exact ev_weak _ (mLe_none (mLe_none (mLe_none mLe_nil))) (e_X10_isToss_J20 w _ h)
    · rw [if_neg hc] at h
      refine ev_if_eq_f (q := 16) (t0 := 20) dX10_isToss_13 (by decide) rfl hc ?_
      refine ev_iconst (q := 17) (v := (1 : Int32)) dX10_isToss_16 rfl (by decide) ?_
      refine ev_goto (q := 21) dX10_isToss_17 (by decide) ?_
      exact ev_weak _ (mLe_none (mLe_none (mLe_none mLe_nil))) (e_X10_isToss_J21 (1 : Int32) w _ h)
def f_X10_letter_J11 (w : mW) : Option (Int32 × mW) := some (((-102 : Int32), w))
set_option maxRecDepth 100000 in
set_option maxHeartbeats 4000000 in
theorem e_X10_letter_J11 {X : mXs} (w : mW) (res : Int32 × mW) (h : f_X10_letter_J11 w = some res) : mEv X M_X10_letter 2 (some (vi res.1)) res.2 11 [none, none] [] w := by
  unfold f_X10_letter_J11 at h
  refine ev_bipush (q := 13) (v := (-102 : Int32)) dX10_letter_11 rfl (by decide) ?_
  cases h
  exact ev_iret dX10_letter_13 rfl rfl
def f_X10_letter (o : Nat) (v1 : Int32) (w : mW) : Option (Int32 × mW) := if v1 < (1 : Int32) then (f_X10_letter_J11 w) else (if v1 ≤ (126 : Int32) then (Option.bind (gR w (some o) 10 0) fun r1 => Option.bind (gI w r1 3 1) fun r2 => if r2 < (36 : Int32) then (Option.bind (gR w (some o) 10 0) fun r3 => Option.bind (kO w r3 3) fun q5 => Option.bind (f_X3_append q5 v1 w) fun w4 => Option.bind (gR w4 (some o) 10 0) fun r6 => Option.bind (gI w4 r6 3 1) fun r7 => some ((r7, w4))) else (some (((-104 : Int32), w)))) else (f_X10_letter_J11 w))
set_option maxRecDepth 100000 in
set_option maxHeartbeats 4000000 in
theorem met_X10_letter (o : Nat) (v1 : Int32) (w : mW) (res : Int32 × mW) (h : f_X10_letter o v1 w = some res) : mMet M_X10_letter 2 [vr ((some o)), vi v1] w (some (vi res.1)) res.2 := by
  refine ev_met (n := 0) (by decide) rfl fun X => ?_
  unfold f_X10_letter at h
  show mEv X M_X10_letter 2 _ _ 0 [some (vr ((some o))), some (vi v1)] [] w
  refine ev_iload_n (q := 1) dX10_letter_0 rfl rfl ?_
  refine ev_iconst (q := 2) (v := (1 : Int32)) dX10_letter_1 rfl (by decide) ?_
  by_cases hc : v1 < (1 : Int32)
  · rw [if_pos hc] at h
    refine ev_icmp_lt_t (q := 11) dX10_letter_2 (by decide) hc ?_
    exact ev_weak _ (mLe_none (mLe_none mLe_nil)) (e_X10_letter_J11 w _ h)
  · rw [if_neg hc] at h
    refine ev_icmp_lt_f (q := 5) (t0 := 11) dX10_letter_2 (by decide) rfl hc ?_
    refine ev_iload_n (q := 6) dX10_letter_5 rfl rfl ?_
    refine ev_bipush (q := 8) (v := (126 : Int32)) dX10_letter_6 rfl (by decide) ?_
    by_cases hc : v1 ≤ (126 : Int32)
    · rw [if_pos hc] at h
      refine ev_icmp_le_t (q := 14) dX10_letter_8 (by decide) hc ?_
      refine ev_aload_n (q := 15) dX10_letter_14 rfl rfl ?_
      replace h := Option.bind_eq_some_iff.mp h; obtain ⟨r1, hr1, h⟩ := h
      refine ev_gR dX10_letter_15 fl_X10_10 hr1 rfl ?_
      replace h := Option.bind_eq_some_iff.mp h; obtain ⟨r2, hr2, h⟩ := h
      refine ev_gI dX10_letter_18 fl_X10_50 hr2 rfl ?_
      refine ev_bipush (q := 23) (v := (36 : Int32)) dX10_letter_21 rfl (by decide) ?_
      by_cases hc : r2 < (36 : Int32)
      · rw [if_pos hc] at h
        refine ev_icmp_lt_t (q := 29) dX10_letter_23 (by decide) hc ?_
        refine ev_aload_n (q := 30) dX10_letter_29 rfl rfl ?_
        replace h := Option.bind_eq_some_iff.mp h; obtain ⟨r3, hr3, h⟩ := h
        refine ev_gR dX10_letter_30 fl_X10_10 hr3 rfl ?_
        refine ev_iload_n (q := 34) dX10_letter_33 rfl rfl ?_
        replace h := Option.bind_eq_some_iff.mp h; obtain ⟨q5, hq5, h⟩ := h
        obtain ⟨hxq5, fsq5, hkq5⟩ := kO_spec hq5
        subst hxq5
        replace h := Option.bind_eq_some_iff.mp h; obtain ⟨w4, hw4, h⟩ := h
        refine ev_invV (M1 := M_X3_append) (as := [vi v1]) (fs := fsq5) (ci := 3) dX10_letter_34 rfl tw_288 cal_X3_append tw_289 tw_290 (by decide) rfl rfl (Nat.le_of_ble_eq_true rfl) hkq5 rfl (met_X3_append q5 v1 w _ hw4) ?_
        refine ev_aload_n (q := 38) dX10_letter_37 rfl rfl ?_
        replace h := Option.bind_eq_some_iff.mp h; obtain ⟨r6, hr6, h⟩ := h
        refine ev_gR dX10_letter_38 fl_X10_10 hr6 rfl ?_
        replace h := Option.bind_eq_some_iff.mp h; obtain ⟨r7, hr7, h⟩ := h
        refine ev_gI dX10_letter_41 fl_X10_50 hr7 rfl ?_
        cases h
        exact ev_iret dX10_letter_44 rfl rfl
      · rw [if_neg hc] at h
        refine ev_icmp_lt_f (q := 26) (t0 := 29) dX10_letter_23 (by decide) rfl hc ?_
        refine ev_bipush (q := 28) (v := (-104 : Int32)) dX10_letter_26 rfl (by decide) ?_
        cases h
        exact ev_iret dX10_letter_28 rfl rfl
    · rw [if_neg hc] at h
      refine ev_icmp_le_f (q := 11) (t0 := 14) dX10_letter_8 (by decide) rfl hc ?_
      exact ev_weak _ (mLe_none (mLe_none mLe_nil)) (e_X10_letter_J11 w _ h)
def f_X10_morning (o : Nat) (w : mW) : Option (Int32 × mW) := Option.bind (kO w (some o) 10) fun _ => Option.bind (f_X10_hasPort o  w) fun r1 => if r1 = 0 then (some (((-103 : Int32), w))) else (Option.bind (gR w (some o) 10 3) fun r3 => Option.bind (gI w r3 2 10) fun r4 => if r4 < (999 : Int32) then (Option.bind (gR w (some o) 10 3) fun r5 => Option.bind (gI w r5 2 7) fun r6 => Option.bind (f_J6_bitCount_0f7a4 r6 w) fun r7 => Option.bind (gR w (some o) 10 3) fun r8 => Option.bind (gI w (some o) 10 7) fun r9 => Option.bind (kO w r8 2) fun q11 => Option.bind (f_X2_wake q11 r9 w) fun w10 => some ((r7, w10))) else (some (((-104 : Int32), w))))
set_option maxRecDepth 100000 in
set_option maxHeartbeats 4000000 in
theorem met_X10_morning (o : Nat) (w : mW) (res : Int32 × mW) (h : f_X10_morning o w = some res) : mMet M_X10_morning 2 [vr ((some o))] w (some (vi res.1)) res.2 := by
  refine ev_met (n := 1) (by decide) rfl fun X => ?_
  unfold f_X10_morning at h
  show mEv X M_X10_morning 2 _ _ 0 [some (vr ((some o))), none] [] w
  refine ev_aload_n (q := 1) dX10_morning_0 rfl rfl ?_
  replace h := Option.bind_eq_some_iff.mp h; obtain ⟨q2, hq2, h⟩ := h
  obtain ⟨hxq2, fsq2, hkq2⟩ := kO_spec hq2
  cases hxq2
  replace h := Option.bind_eq_some_iff.mp h; obtain ⟨r1, hr1, h⟩ := h
  refine ev_invV (M1 := M_X10_hasPort) (as := []) (fs := fsq2) (ci := 10) dX10_morning_1 rfl tw_654 cal_X10_hasPort tw_656 tw_22 (by decide) rfl rfl (Nat.le_of_ble_eq_true rfl) hkq2 rfl (met_X10_hasPort o  w _ hr1) ?_
  by_cases hc : r1 = 0
  · rw [if_pos hc] at h
    refine ev_if_ne_f (q := 7) (t0 := 10) dX10_morning_4 (by decide) rfl hc ?_
    refine ev_bipush (q := 9) (v := (-103 : Int32)) dX10_morning_7 rfl (by decide) ?_
    cases h
    exact ev_iret dX10_morning_9 rfl rfl
  · rw [if_neg hc] at h
    refine ev_if_ne_t (q := 10) dX10_morning_4 (by decide) hc ?_
    refine ev_aload_n (q := 11) dX10_morning_10 rfl rfl ?_
    replace h := Option.bind_eq_some_iff.mp h; obtain ⟨r3, hr3, h⟩ := h
    refine ev_gR dX10_morning_11 fl_X10_32 hr3 rfl ?_
    replace h := Option.bind_eq_some_iff.mp h; obtain ⟨r4, hr4, h⟩ := h
    refine ev_gI dX10_morning_14 fl_X10_176 hr4 rfl ?_
    refine ev_sipush (q := 20) (v := (999 : Int32)) dX10_morning_17 rfl (by decide) ?_
    by_cases hc : r4 < (999 : Int32)
    · rw [if_pos hc] at h
      refine ev_icmp_lt_t (q := 26) dX10_morning_20 (by decide) hc ?_
      refine ev_aload_n (q := 27) dX10_morning_26 rfl rfl ?_
      replace h := Option.bind_eq_some_iff.mp h; obtain ⟨r5, hr5, h⟩ := h
      refine ev_gR dX10_morning_27 fl_X10_32 hr5 rfl ?_
      replace h := Option.bind_eq_some_iff.mp h; obtain ⟨r6, hr6, h⟩ := h
      refine ev_gI dX10_morning_30 fl_X10_86 hr6 rfl ?_
      replace h := Option.bind_eq_some_iff.mp h; obtain ⟨r7, hr7, h⟩ := h
      refine ev_invS (M1 := M_J6_bitCount_0f7a4) (as := [vi r6]) dX10_morning_33 rfl tw_606 cal_J6_bitCount_0f7a4 tw_607 (by decide) rfl rfl (Nat.le_of_ble_eq_true rfl) (met_J6_bitCount_0f7a4 r6 w _ hr7) ?_
      refine ev_istore_n (q := 37) dX10_morning_36 rfl (by decide) ?_
      refine ev_aload_n (q := 38) dX10_morning_37 rfl rfl ?_
      replace h := Option.bind_eq_some_iff.mp h; obtain ⟨r8, hr8, h⟩ := h
      refine ev_gR dX10_morning_38 fl_X10_32 hr8 rfl ?_
      refine ev_aload_n (q := 42) dX10_morning_41 rfl rfl ?_
      replace h := Option.bind_eq_some_iff.mp h; obtain ⟨r9, hr9, h⟩ := h
      refine ev_gI dX10_morning_42 fl_X10_72 hr9 rfl ?_
      replace h := Option.bind_eq_some_iff.mp h; obtain ⟨q11, hq11, h⟩ := h
      obtain ⟨hxq11, fsq11, hkq11⟩ := kO_spec hq11
      subst hxq11
      replace h := Option.bind_eq_some_iff.mp h; obtain ⟨w10, hw10, h⟩ := h
      refine ev_invV (M1 := M_X2_wake) (as := [vi r9]) (fs := fsq11) (ci := 2) dX10_morning_45 rfl tw_674 cal_X2_wake tw_675 tw_676 (by decide) rfl rfl (Nat.le_of_ble_eq_true rfl) hkq11 rfl (met_X2_wake q11 r9 w _ hw10) ?_
      refine ev_iload_n (q := 49) dX10_morning_48 rfl rfl ?_
      cases h
      exact ev_iret dX10_morning_49 rfl rfl
    · rw [if_neg hc] at h
      refine ev_icmp_lt_f (q := 23) (t0 := 26) dX10_morning_20 (by decide) rfl hc ?_
      refine ev_bipush (q := 25) (v := (-104 : Int32)) dX10_morning_23 rfl (by decide) ?_
      cases h
      exact ev_iret dX10_morning_25 rfl rfl
def f_X10_mostLeft_J45 (kc : Int32 → Int32 → Option (Int32)) (v0 : Int32) (v1 : Int32) (v2 : Int32) (v3 : Int32) (v4 : Int32) (v5 : Int32) (w : mW) : Option (Int32) := kc v4 (v5 + (1 : Int32))
set_option maxRecDepth 100000 in
set_option maxHeartbeats 4000000 in
theorem e_X10_mostLeft_J45 {X : mXs} {r : Option mV} {w' : mW} (P : (Int32) → Prop) (v0 : Int32) (v1 : Int32) (v2 : Int32) (v3 : Int32) (v4 : Int32) (v5 : Int32) (w : mW) (kc : Int32 → Int32 → Option (Int32)) (hk : ∀ (u4 : Int32) (u5 : Int32) (e : Int32), kc u4 u5 = some e → P e → mEv X M_X10_mostLeft 2 r w' 16 [some (vi v0), some (vi v1), some (vi v2), some (vi v3), some (vi u4), some (vi u5)] [] w) (e : Int32) (h : f_X10_mostLeft_J45 kc v0 v1 v2 v3 v4 v5 w = some e) (hP : P e) : mEv X M_X10_mostLeft 2 r w' 45 [some (vi v0), some (vi v1), some (vi v2), some (vi v3), some (vi v4), some (vi v5)] [] w := by
  unfold f_X10_mostLeft_J45 at h
  refine ev_iinc (q := 48) (v := v5 + (1 : Int32)) dX10_mostLeft_45 rfl (by decide) rfl (by rfl) ?_
  refine ev_goto (q := 16) dX10_mostLeft_48 (by decide) ?_
  exact ev_weak _ (mLe_some (mLe_some (mLe_some (mLe_some (mLe_some (mLe_some mLe_nil)))))) (hk v4 (v5 + (1 : Int32)) _ h hP)
def f_X10_mostLeft_L16 (v0 : Int32) (v1 : Int32) (v2 : Int32) (v3 : Int32) (w : mW) : Nat → Int32 → Int32 → Option (Int32)
  | 0, _, _ => none
  | n + 1, v4, v5 => if (5 : Int32) ≤ v5 then (some (v4)) else (if (v0 >>> (v5 &&& 31)) &&& (1 : Int32) = (1 : Int32) then (Option.bind (f_X10_columnBy v1 v5 w) fun r1 => if r1 = v3 then (f_X10_mostLeft_J45 (f_X10_mostLeft_L16 v0 v1 v2 v3 w n) v0 v1 v2 v3 (v4 + (1 : Int32)) v5 w) else (f_X10_mostLeft_J45 (f_X10_mostLeft_L16 v0 v1 v2 v3 w n) v0 v1 v2 v3 v4 v5 w)) else (f_X10_mostLeft_J45 (f_X10_mostLeft_L16 v0 v1 v2 v3 w n) v0 v1 v2 v3 v4 v5 w))
set_option maxRecDepth 100000 in
set_option maxHeartbeats 4000000 in
theorem e_X10_mostLeft_L16 {X : mXs} {r : Option mV} {w' : mW} (P : (Int32) → Prop) (v0 : Int32) (v1 : Int32) (v2 : Int32) (v3 : Int32) (w : mW) (hexit : ∀ y, P y → mEv X M_X10_mostLeft 2 r w' 51 [some (vi v0), some (vi v1), some (vi v2), some (vi v3), some (vi y), none] [] w) : ∀ (n : Nat) (v4 : Int32) (v5 : Int32) (e : Int32), f_X10_mostLeft_L16 v0 v1 v2 v3 w n v4 v5 = some e → P e → mEv X M_X10_mostLeft 2 r w' 16 [some (vi v0), some (vi v1), some (vi v2), some (vi v3), some (vi v4), some (vi v5)] [] w := by
  intro n
  induction n with
  | zero =>
    intro v4 v5 e h hP
    rw [f_X10_mostLeft_L16] at h
    cases h
  | succ n hk =>
    intro v4 v5 e h hP
    rw [f_X10_mostLeft_L16] at h
    refine ev_iload (q := 18) dX10_mostLeft_16 rfl rfl ?_
    refine ev_iconst (q := 19) (v := (5 : Int32)) dX10_mostLeft_18 rfl (by decide) ?_
    by_cases hc : (5 : Int32) ≤ v5
    · rw [if_pos hc] at h
      refine ev_icmp_ge_t (q := 51) dX10_mostLeft_19 (by decide) hc ?_
      cases h
      exact ev_weak _ (mLe_some (mLe_some (mLe_some (mLe_some (mLe_some (mLe_none mLe_nil)))))) (hexit _ hP)
    · rw [if_neg hc] at h
      refine ev_icmp_ge_f (q := 22) (t0 := 51) dX10_mostLeft_19 (by decide) rfl hc ?_
      refine ev_iload_n (q := 23) dX10_mostLeft_22 rfl rfl ?_
      refine ev_iload (q := 25) dX10_mostLeft_23 rfl rfl ?_
      refine ev_ishr (q := 26) dX10_mostLeft_25 rfl ?_
      refine ev_iconst (q := 27) (v := (1 : Int32)) dX10_mostLeft_26 rfl (by decide) ?_
      refine ev_iand (q := 28) dX10_mostLeft_27 rfl ?_
      refine ev_iconst (q := 29) (v := (1 : Int32)) dX10_mostLeft_28 rfl (by decide) ?_
      by_cases hc : (v0 >>> (v5 &&& 31)) &&& (1 : Int32) = (1 : Int32)
      · rw [if_pos hc] at h
        refine ev_icmp_ne_f (q := 32) (t0 := 45) dX10_mostLeft_29 (by decide) rfl hc ?_
        refine ev_iload_n (q := 33) dX10_mostLeft_32 rfl rfl ?_
        refine ev_iload (q := 35) dX10_mostLeft_33 rfl rfl ?_
        replace h := Option.bind_eq_some_iff.mp h; obtain ⟨r1, hr1, h⟩ := h
        refine ev_invS (M1 := M_X10_columnBy) (as := [vi v1, vi v5]) dX10_mostLeft_35 rfl tw_633 cal_X10_columnBy tw_622 (by decide) rfl rfl (Nat.le_of_ble_eq_true rfl) (met_X10_columnBy v1 v5 w _ hr1) ?_
        refine ev_iload_n (q := 39) dX10_mostLeft_38 rfl rfl ?_
        by_cases hc : r1 = v3
        · rw [if_pos hc] at h
          refine ev_icmp_ne_f (q := 42) (t0 := 45) dX10_mostLeft_39 (by decide) rfl hc ?_
          refine ev_iinc (q := 45) (v := v4 + (1 : Int32)) dX10_mostLeft_42 rfl (by decide) rfl (by rfl) ?_
          exact ev_weak _ (mLe_some (mLe_some (mLe_some (mLe_some (mLe_some (mLe_some mLe_nil)))))) (e_X10_mostLeft_J45 P v0 v1 v2 v3 (v4 + (1 : Int32)) v5 w _ hk  _ h hP)
        · rw [if_neg hc] at h
          refine ev_icmp_ne_t (q := 45) dX10_mostLeft_39 (by decide) hc ?_
          exact ev_weak _ (mLe_some (mLe_some (mLe_some (mLe_some (mLe_some (mLe_some mLe_nil)))))) (e_X10_mostLeft_J45 P v0 v1 v2 v3 v4 v5 w _ hk  _ h hP)
      · rw [if_neg hc] at h
        refine ev_icmp_ne_t (q := 45) dX10_mostLeft_29 (by decide) hc ?_
        exact ev_weak _ (mLe_some (mLe_some (mLe_some (mLe_some (mLe_some (mLe_some mLe_nil)))))) (e_X10_mostLeft_J45 P v0 v1 v2 v3 v4 v5 w _ hk  _ h hP)
def f_X10_mostLeft_L4 (v0 : Int32) (v1 : Int32) (w : mW) : Nat → Int32 → Int32 → Option (Int32)
  | 0, _, _ => none
  | n + 1, v2, v3 => if (6 : Int32) ≤ v3 then (some (v2)) else (Option.bind (f_X10_mostLeft_L16 v0 v1 v2 v3 w mFuel (0 : Int32) (0 : Int32)) fun e2 => (f_X10_mostLeft_L4 v0 v1 w n) (if v2 < e2 then e2 else v2) (v3 + (1 : Int32)))
set_option maxRecDepth 100000 in
set_option maxHeartbeats 4000000 in
theorem e_X10_mostLeft_L4 {X : mXs} {r : Option mV} {w' : mW} (P : (Int32) → Prop) (v0 : Int32) (v1 : Int32) (w : mW) (hexit : ∀ y, P y → mEv X M_X10_mostLeft 2 r w' 64 [none, none, some (vi y), none, none, none] [] w) : ∀ (n : Nat) (v2 : Int32) (v3 : Int32) (e : Int32), f_X10_mostLeft_L4 v0 v1 w n v2 v3 = some e → P e → mEv X M_X10_mostLeft 2 r w' 4 [some (vi v0), some (vi v1), some (vi v2), some (vi v3), none, none] [] w := by
  intro n
  induction n with
  | zero =>
    intro v2 v3 e h hP
    rw [f_X10_mostLeft_L4] at h
    cases h
  | succ n hk =>
    intro v2 v3 e h hP
    rw [f_X10_mostLeft_L4] at h
    refine ev_iload_n (q := 5) dX10_mostLeft_4 rfl rfl ?_
    refine ev_bipush (q := 7) (v := (6 : Int32)) dX10_mostLeft_5 rfl (by decide) ?_
    by_cases hc : (6 : Int32) ≤ v3
    · rw [if_pos hc] at h
      refine ev_icmp_ge_t (q := 64) dX10_mostLeft_7 (by decide) hc ?_
      cases h
      exact ev_weak _ (mLe_none (mLe_none (mLe_some (mLe_none (mLe_none (mLe_none mLe_nil)))))) (hexit _ hP)
    · rw [if_neg hc] at h
      refine ev_icmp_ge_f (q := 10) (t0 := 64) dX10_mostLeft_7 (by decide) rfl hc ?_
      refine ev_iconst (q := 11) (v := (0 : Int32)) dX10_mostLeft_10 rfl (by decide) ?_
      refine ev_istore (q := 13) dX10_mostLeft_11 rfl (by decide) ?_
      refine ev_iconst (q := 14) (v := (0 : Int32)) dX10_mostLeft_13 rfl (by decide) ?_
      refine ev_istore (q := 16) dX10_mostLeft_14 rfl (by decide) ?_
      replace h := Option.bind_eq_some_iff.mp h; obtain ⟨e2, he2, h⟩ := h
      refine ev_weak _ (mLe_some (mLe_some (mLe_some (mLe_some (mLe_some (mLe_some mLe_nil)))))) (e_X10_mostLeft_L16 (fun z => e2 = z) v0 v1 v2 v3 w (fun e2q hq => ?_) mFuel (0 : Int32) (0 : Int32) _ he2 rfl)
      subst hq
      refine ev_iload_n (q := 52) dX10_mostLeft_51 rfl rfl ?_
      refine ev_iload (q := 54) dX10_mostLeft_52 rfl rfl ?_
      refine ev_mmax (q := 57) dX10_mostLeft_54 rfl tw_634 tw_364 tw_mathi tw_365 (by decide) (Nat.le_of_ble_eq_true rfl) ?_
      refine ev_istore_n (q := 58) dX10_mostLeft_57 rfl (by decide) ?_
      refine ev_iinc (q := 61) (v := v3 + (1 : Int32)) dX10_mostLeft_58 rfl (by decide) rfl (by rfl) ?_
      refine ev_goto (q := 4) dX10_mostLeft_61 (by decide) ?_
      exact ev_weak _ (mLe_some (mLe_some (mLe_some (mLe_some (mLe_none (mLe_none mLe_nil)))))) (hk (if v2 < e2 then e2 else v2) (v3 + (1 : Int32)) _ h hP)
def f_X10_mostLeft (v0 : Int32) (v1 : Int32) (w : mW) : Option (Int32) := Option.bind (f_X10_mostLeft_L4 v0 v1 w mFuel (0 : Int32) (-1 : Int32)) fun e3 => some (e3)
set_option maxRecDepth 100000 in
set_option maxHeartbeats 4000000 in
theorem met_X10_mostLeft (v0 : Int32) (v1 : Int32) (w : mW) (res : Int32) (h : f_X10_mostLeft v0 v1 w = some res) : mMet M_X10_mostLeft 2 [vi v0, vi v1] w (some (vi res)) w := by
  refine ev_met (n := 4) (by decide) rfl fun X => ?_
  unfold f_X10_mostLeft at h
  show mEv X M_X10_mostLeft 2 _ _ 0 [some (vi v0), some (vi v1), none, none, none, none] [] w
  refine ev_iconst (q := 1) (v := (0 : Int32)) dX10_mostLeft_0 rfl (by decide) ?_
  refine ev_istore_n (q := 2) dX10_mostLeft_1 rfl (by decide) ?_
  refine ev_iconst (q := 3) (v := (-1 : Int32)) dX10_mostLeft_2 rfl (by decide) ?_
  refine ev_istore_n (q := 4) dX10_mostLeft_3 rfl (by decide) ?_
  replace h := Option.bind_eq_some_iff.mp h; obtain ⟨e3, he3, h⟩ := h
  refine ev_weak _ (mLe_some (mLe_some (mLe_some (mLe_some (mLe_none (mLe_none mLe_nil)))))) (e_X10_mostLeft_L4 (fun z => e3 = z) v0 v1 w (fun e3q hq => ?_) mFuel (0 : Int32) (-1 : Int32) _ he3 rfl)
  subst hq
  refine ev_iload_n (q := 65) dX10_mostLeft_64 rfl rfl ?_
  cases h
  exact ev_iret dX10_mostLeft_65 rfl rfl
def f_X10_move_J16 (w : mW) : Option (Int32 × mW) := some (((-101 : Int32), w))
set_option maxRecDepth 100000 in
set_option maxHeartbeats 4000000 in
theorem e_X10_move_J16 {X : mXs} (w : mW) (res : Int32 × mW) (h : f_X10_move_J16 w = some res) : mEv X M_X10_move 2 (some (vi res.1)) res.2 16 [none, none, none, none] [] w := by
  unfold f_X10_move_J16 at h
  refine ev_bipush (q := 18) (v := (-101 : Int32)) dX10_move_16 rfl (by decide) ?_
  cases h
  exact ev_iret dX10_move_18 rfl rfl
def f_X10_move (o : Nat) (v1 : Int32) (v2 : Int32) (w : mW) : Option (Int32 × mW) := Option.bind (kO w (some o) 10) fun _ => Option.bind (f_X10_isSleeper o v1 w) fun r1 => if r1 = 0 then (f_X10_move_J16 w) else (Option.bind (kO w (some o) 10) fun _ => Option.bind (f_X10_isCell o v2 w) fun r3 => if r3 = 0 then (f_X10_move_J16 w) else (Option.bind (kO w (some o) 10) fun _ => Option.bind (f_X10_isTakenByAnother o v2 v1 w) fun r5 => if r5 = 0 then (Option.bind (gR w (some o) 10 3) fun r7 => Option.bind (gR w r7 2 0) fun r8 => Option.bind (f_X10_at r8 v1 w) fun r9 => Option.bind (gR w (some o) 10 3) fun r10 => Option.bind (gR w r10 2 0) fun r11 => Option.bind (f_X10_put r11 v1 v2 w) fun w12 => Option.bind (gR w12 (some o) 10 3) fun r13 => Option.bind (gI w12 r13 2 7) fun r14 => Option.bind (pI w12 r13 2 7 (r14 &&& (((1 : Int32) <<< (v1 &&& 31)) ^^^ (-1 : Int32)))) fun w15 => some ((r9, w15))) else (some (((-103 : Int32), w)))))
set_option maxRecDepth 100000 in
set_option maxHeartbeats 4000000 in
theorem met_X10_move (o : Nat) (v1 : Int32) (v2 : Int32) (w : mW) (res : Int32 × mW) (h : f_X10_move o v1 v2 w = some res) : mMet M_X10_move 2 [vr ((some o)), vi v1, vi v2] w (some (vi res.1)) res.2 := by
  refine ev_met (n := 1) (by decide) rfl fun X => ?_
  unfold f_X10_move at h
  show mEv X M_X10_move 2 _ _ 0 [some (vr ((some o))), some (vi v1), some (vi v2), none] [] w
  refine ev_aload_n (q := 1) dX10_move_0 rfl rfl ?_
  refine ev_iload_n (q := 2) dX10_move_1 rfl rfl ?_
  replace h := Option.bind_eq_some_iff.mp h; obtain ⟨q2, hq2, h⟩ := h
  obtain ⟨hxq2, fsq2, hkq2⟩ := kO_spec hq2
  cases hxq2
  replace h := Option.bind_eq_some_iff.mp h; obtain ⟨r1, hr1, h⟩ := h
  refine ev_invV (M1 := M_X10_isSleeper) (as := [vi v1]) (fs := fsq2) (ci := 10) dX10_move_2 rfl tw_502 cal_X10_isSleeper tw_504 tw_9 (by decide) rfl rfl (Nat.le_of_ble_eq_true rfl) hkq2 rfl (met_X10_isSleeper o v1 w _ hr1) ?_
  by_cases hc : r1 = 0
  · rw [if_pos hc] at h
    refine ev_if_eq_t (q := 16) dX10_move_5 (by decide) hc ?_
    exact ev_weak _ (mLe_none (mLe_none (mLe_none (mLe_none mLe_nil)))) (e_X10_move_J16 w _ h)
  · rw [if_neg hc] at h
    refine ev_if_eq_f (q := 8) (t0 := 16) dX10_move_5 (by decide) rfl hc ?_
    refine ev_aload_n (q := 9) dX10_move_8 rfl rfl ?_
    refine ev_iload_n (q := 10) dX10_move_9 rfl rfl ?_
    replace h := Option.bind_eq_some_iff.mp h; obtain ⟨q4, hq4, h⟩ := h
    obtain ⟨hxq4, fsq4, hkq4⟩ := kO_spec hq4
    cases hxq4
    replace h := Option.bind_eq_some_iff.mp h; obtain ⟨r3, hr3, h⟩ := h
    refine ev_invV (M1 := M_X10_isCell) (as := [vi v2]) (fs := fsq4) (ci := 10) dX10_move_10 rfl tw_650 cal_X10_isCell tw_652 tw_21 (by decide) rfl rfl (Nat.le_of_ble_eq_true rfl) hkq4 rfl (met_X10_isCell o v2 w _ hr3) ?_
    by_cases hc : r3 = 0
    · rw [if_pos hc] at h
      refine ev_if_ne_f (q := 16) (t0 := 19) dX10_move_13 (by decide) rfl hc ?_
      exact ev_weak _ (mLe_none (mLe_none (mLe_none (mLe_none mLe_nil)))) (e_X10_move_J16 w _ h)
    · rw [if_neg hc] at h
      refine ev_if_ne_t (q := 19) dX10_move_13 (by decide) hc ?_
      refine ev_aload_n (q := 20) dX10_move_19 rfl rfl ?_
      refine ev_iload_n (q := 21) dX10_move_20 rfl rfl ?_
      refine ev_iload_n (q := 22) dX10_move_21 rfl rfl ?_
      replace h := Option.bind_eq_some_iff.mp h; obtain ⟨q6, hq6, h⟩ := h
      obtain ⟨hxq6, fsq6, hkq6⟩ := kO_spec hq6
      cases hxq6
      replace h := Option.bind_eq_some_iff.mp h; obtain ⟨r5, hr5, h⟩ := h
      refine ev_invV (M1 := M_X10_isTakenByAnother) (as := [vi v2, vi v1]) (fs := fsq6) (ci := 10) dX10_move_22 rfl tw_552 cal_X10_isTakenByAnother tw_554 tw_15 (by decide) rfl rfl (Nat.le_of_ble_eq_true rfl) hkq6 rfl (met_X10_isTakenByAnother o v2 v1 w _ hr5) ?_
      by_cases hc : r5 = 0
      · rw [if_pos hc] at h
        refine ev_if_eq_t (q := 31) dX10_move_25 (by decide) hc ?_
        refine ev_aload_n (q := 32) dX10_move_31 rfl rfl ?_
        replace h := Option.bind_eq_some_iff.mp h; obtain ⟨r7, hr7, h⟩ := h
        refine ev_gR dX10_move_32 fl_X10_32 hr7 rfl ?_
        replace h := Option.bind_eq_some_iff.mp h; obtain ⟨r8, hr8, h⟩ := h
        refine ev_gR dX10_move_35 fl_X10_79 hr8 rfl ?_
        refine ev_iload_n (q := 39) dX10_move_38 rfl rfl ?_
        replace h := Option.bind_eq_some_iff.mp h; obtain ⟨r9, hr9, h⟩ := h
        refine ev_invS (M1 := M_X10_at) (as := [vr r8, vi v1]) dX10_move_39 rfl tw_460 cal_X10_at tw_308 (by decide) rfl rfl (Nat.le_of_ble_eq_true rfl) (met_X10_at r8 v1 w _ hr9) ?_
        refine ev_istore_n (q := 43) dX10_move_42 rfl (by decide) ?_
        refine ev_aload_n (q := 44) dX10_move_43 rfl rfl ?_
        replace h := Option.bind_eq_some_iff.mp h; obtain ⟨r10, hr10, h⟩ := h
        refine ev_gR dX10_move_44 fl_X10_32 hr10 rfl ?_
        replace h := Option.bind_eq_some_iff.mp h; obtain ⟨r11, hr11, h⟩ := h
        refine ev_gR dX10_move_47 fl_X10_79 hr11 rfl ?_
        refine ev_iload_n (q := 51) dX10_move_50 rfl rfl ?_
        refine ev_iload_n (q := 52) dX10_move_51 rfl rfl ?_
        replace h := Option.bind_eq_some_iff.mp h; obtain ⟨w12, hw12, h⟩ := h
        refine ev_invS (M1 := M_X10_put) (as := [vr r11, vi v1, vi v2]) dX10_move_52 rfl tw_456 cal_X10_put tw_293 (by decide) rfl rfl (Nat.le_of_ble_eq_true rfl) (met_X10_put r11 v1 v2 w _ hw12) ?_
        refine ev_aload_n (q := 56) dX10_move_55 rfl rfl ?_
        replace h := Option.bind_eq_some_iff.mp h; obtain ⟨r13, hr13, h⟩ := h
        refine ev_gR dX10_move_56 fl_X10_32 hr13 rfl ?_
        refine ev_dup (q := 60) dX10_move_59 rfl rfl ?_
        replace h := Option.bind_eq_some_iff.mp h; obtain ⟨r14, hr14, h⟩ := h
        refine ev_gI dX10_move_60 fl_X10_86 hr14 rfl ?_
        refine ev_iconst (q := 64) (v := (1 : Int32)) dX10_move_63 rfl (by decide) ?_
        refine ev_iload_n (q := 65) dX10_move_64 rfl rfl ?_
        refine ev_ishl (q := 66) dX10_move_65 rfl ?_
        refine ev_iconst (q := 67) (v := (-1 : Int32)) dX10_move_66 rfl (by decide) ?_
        refine ev_ixor (q := 68) dX10_move_67 rfl ?_
        refine ev_iand (q := 69) dX10_move_68 rfl ?_
        replace h := Option.bind_eq_some_iff.mp h; obtain ⟨w15, hw15, h⟩ := h
        refine ev_pI dX10_move_69 fp_X10_86 hw15 rfl ?_
        refine ev_iload_n (q := 73) dX10_move_72 rfl rfl ?_
        cases h
        exact ev_iret dX10_move_73 rfl rfl
      · rw [if_neg hc] at h
        refine ev_if_eq_f (q := 28) (t0 := 31) dX10_move_25 (by decide) rfl hc ?_
        refine ev_bipush (q := 30) (v := (-103 : Int32)) dX10_move_28 rfl (by decide) ?_
        cases h
        exact ev_iret dX10_move_30 rfl rfl
def f_X10_see_J33 (o : Nat) (v1 : Int32) (v2 : Int32) (v3 : Int32) (w : mW) : Option (Int32 × mW) := Option.bind (gR w (some o) 10 3) fun r1 => Option.bind (gR w r1 2 6) fun r2 => Option.bind (gI w r2 6 3) fun r3 => if r3 < (6 : Int32) then (Option.bind (gR w (some o) 10 3) fun r4 => Option.bind (gR w r4 2 6) fun r5 => Option.bind (kO w r5 6) fun q7 => Option.bind (f_X6_add q7 v1 v2 v3 w) fun w6 => Option.bind (gR w6 (some o) 10 3) fun r8 => Option.bind (gR w6 r8 2 6) fun r9 => Option.bind (gI w6 r9 6 3) fun r10 => some ((r10, w6))) else (some (((-104 : Int32), w)))
set_option maxRecDepth 100000 in
set_option maxHeartbeats 4000000 in
theorem e_X10_see_J33 {X : mXs} (o : Nat) (v1 : Int32) (v2 : Int32) (v3 : Int32) (w : mW) (res : Int32 × mW) (h : f_X10_see_J33 o v1 v2 v3 w = some res) : mEv X M_X10_see 2 (some (vi res.1)) res.2 33 [some (vr ((some o))), some (vi v1), some (vi v2), some (vi v3)] [] w := by
  unfold f_X10_see_J33 at h
  refine ev_aload_n (q := 34) dX10_see_33 rfl rfl ?_
  replace h := Option.bind_eq_some_iff.mp h; obtain ⟨r1, hr1, h⟩ := h
  refine ev_gR dX10_see_34 fl_X10_32 hr1 rfl ?_
  replace h := Option.bind_eq_some_iff.mp h; obtain ⟨r2, hr2, h⟩ := h
  refine ev_gR dX10_see_37 fl_X10_123 hr2 rfl ?_
  replace h := Option.bind_eq_some_iff.mp h; obtain ⟨r3, hr3, h⟩ := h
  refine ev_gI dX10_see_40 fl_X10_206 hr3 rfl ?_
  refine ev_bipush (q := 45) (v := (6 : Int32)) dX10_see_43 rfl (by decide) ?_
  by_cases hc : r3 < (6 : Int32)
  · rw [if_pos hc] at h
    refine ev_icmp_lt_t (q := 51) dX10_see_45 (by decide) hc ?_
    refine ev_aload_n (q := 52) dX10_see_51 rfl rfl ?_
    replace h := Option.bind_eq_some_iff.mp h; obtain ⟨r4, hr4, h⟩ := h
    refine ev_gR dX10_see_52 fl_X10_32 hr4 rfl ?_
    replace h := Option.bind_eq_some_iff.mp h; obtain ⟨r5, hr5, h⟩ := h
    refine ev_gR dX10_see_55 fl_X10_123 hr5 rfl ?_
    refine ev_iload_n (q := 59) dX10_see_58 rfl rfl ?_
    refine ev_iload_n (q := 60) dX10_see_59 rfl rfl ?_
    refine ev_iload_n (q := 61) dX10_see_60 rfl rfl ?_
    replace h := Option.bind_eq_some_iff.mp h; obtain ⟨q7, hq7, h⟩ := h
    obtain ⟨hxq7, fsq7, hkq7⟩ := kO_spec hq7
    subst hxq7
    replace h := Option.bind_eq_some_iff.mp h; obtain ⟨w6, hw6, h⟩ := h
    refine ev_invV (M1 := M_X6_add) (as := [vi v1, vi v2, vi v3]) (fs := fsq7) (ci := 6) dX10_see_61 rfl tw_758 cal_X6_add tw_759 tw_760 (by decide) rfl rfl (Nat.le_of_ble_eq_true rfl) hkq7 rfl (met_X6_add q7 v1 v2 v3 w _ hw6) ?_
    refine ev_aload_n (q := 65) dX10_see_64 rfl rfl ?_
    replace h := Option.bind_eq_some_iff.mp h; obtain ⟨r8, hr8, h⟩ := h
    refine ev_gR dX10_see_65 fl_X10_32 hr8 rfl ?_
    replace h := Option.bind_eq_some_iff.mp h; obtain ⟨r9, hr9, h⟩ := h
    refine ev_gR dX10_see_68 fl_X10_123 hr9 rfl ?_
    replace h := Option.bind_eq_some_iff.mp h; obtain ⟨r10, hr10, h⟩ := h
    refine ev_gI dX10_see_71 fl_X10_206 hr10 rfl ?_
    cases h
    exact ev_iret dX10_see_74 rfl rfl
  · rw [if_neg hc] at h
    refine ev_icmp_lt_f (q := 48) (t0 := 51) dX10_see_45 (by decide) rfl hc ?_
    refine ev_bipush (q := 50) (v := (-104 : Int32)) dX10_see_48 rfl (by decide) ?_
    cases h
    exact ev_iret dX10_see_50 rfl rfl
def f_X10_see_J30 (w : mW) : Option (Int32 × mW) := some (((-102 : Int32), w))
set_option maxRecDepth 100000 in
set_option maxHeartbeats 4000000 in
theorem e_X10_see_J30 {X : mXs} (w : mW) (res : Int32 × mW) (h : f_X10_see_J30 w = some res) : mEv X M_X10_see 2 (some (vi res.1)) res.2 30 [none, none, none, none] [] w := by
  unfold f_X10_see_J30 at h
  refine ev_bipush (q := 32) (v := (-102 : Int32)) dX10_see_30 rfl (by decide) ?_
  cases h
  exact ev_iret dX10_see_32 rfl rfl
def f_X10_see (o : Nat) (v1 : Int32) (v2 : Int32) (v3 : Int32) (w : mW) : Option (Int32 × mW) := Option.bind (kO w (some o) 10) fun _ => Option.bind (f_X10_tosserAt o v1 w) fun r11 => oC r11 (some (((-101 : Int32), w))) (fun a13 => Option.bind (f_X10_isColumn v2 w) fun r14 => if r14 = 0 then (f_X10_see_J30 w) else (if v3 = (-1 : Int32) then (f_X10_see_J33 o v1 v2 v3 w) else (Option.bind (f_X10_isColumn v3 w) fun r15 => if r15 = 0 then (f_X10_see_J30 w) else (f_X10_see_J33 o v1 v2 v3 w))))
set_option maxRecDepth 100000 in
set_option maxHeartbeats 4000000 in
theorem met_X10_see (o : Nat) (v1 : Int32) (v2 : Int32) (v3 : Int32) (w : mW) (res : Int32 × mW) (h : f_X10_see o v1 v2 v3 w = some res) : mMet M_X10_see 2 [vr ((some o)), vi v1, vi v2, vi v3] w (some (vi res.1)) res.2 := by
  refine ev_met (n := 0) (by decide) rfl fun X => ?_
  unfold f_X10_see at h
  show mEv X M_X10_see 2 _ _ 0 [some (vr ((some o))), some (vi v1), some (vi v2), some (vi v3)] [] w
  refine ev_aload_n (q := 1) dX10_see_0 rfl rfl ?_
  refine ev_iload_n (q := 2) dX10_see_1 rfl rfl ?_
  replace h := Option.bind_eq_some_iff.mp h; obtain ⟨q12, hq12, h⟩ := h
  obtain ⟨hxq12, fsq12, hkq12⟩ := kO_spec hq12
  cases hxq12
  replace h := Option.bind_eq_some_iff.mp h; obtain ⟨r11, hr11, h⟩ := h
  refine ev_invV (M1 := M_X10_tosserAt) (as := [vi v1]) (fs := fsq12) (ci := 10) dX10_see_2 rfl tw_515 cal_X10_tosserAt tw_517 tw_12 (by decide) rfl rfl (Nat.le_of_ble_eq_true rfl) hkq12 rfl (met_X10_tosserAt o v1 w _ hr11) ?_
  rcases r11 with _ | a13
  · dsimp only [oC] at h
    refine ev_ifnonnull_f (q := 8) dX10_see_5 rfl ?_
    refine ev_bipush (q := 10) (v := (-101 : Int32)) dX10_see_8 rfl (by decide) ?_
    cases h
    exact ev_iret dX10_see_10 rfl rfl
  · dsimp only [oC] at h
    refine ev_ifnonnull_t (q := 11) dX10_see_5 (by decide) ?_
    refine ev_iload_n (q := 12) dX10_see_11 rfl rfl ?_
    replace h := Option.bind_eq_some_iff.mp h; obtain ⟨r14, hr14, h⟩ := h
    refine ev_invS (M1 := M_X10_isColumn) (as := [vi v2]) dX10_see_12 rfl tw_624 cal_X10_isColumn tw_625 (by decide) rfl rfl (Nat.le_of_ble_eq_true rfl) (met_X10_isColumn v2 w _ hr14) ?_
    by_cases hc : r14 = 0
    · rw [if_pos hc] at h
      refine ev_if_eq_t (q := 30) dX10_see_15 (by decide) hc ?_
      exact ev_weak _ (mLe_none (mLe_none (mLe_none (mLe_none mLe_nil)))) (e_X10_see_J30 w _ h)
    · rw [if_neg hc] at h
      refine ev_if_eq_f (q := 18) (t0 := 30) dX10_see_15 (by decide) rfl hc ?_
      refine ev_iload_n (q := 19) dX10_see_18 rfl rfl ?_
      refine ev_iconst (q := 20) (v := (-1 : Int32)) dX10_see_19 rfl (by decide) ?_
      by_cases hc : v3 = (-1 : Int32)
      · rw [if_pos hc] at h
        refine ev_icmp_eq_t (q := 33) dX10_see_20 (by decide) hc ?_
        exact ev_weak _ (mLe_some (mLe_some (mLe_some (mLe_some mLe_nil)))) (e_X10_see_J33 o v1 v2 v3 w _ h)
      · rw [if_neg hc] at h
        refine ev_icmp_eq_f (q := 23) (t0 := 33) dX10_see_20 (by decide) rfl hc ?_
        refine ev_iload_n (q := 24) dX10_see_23 rfl rfl ?_
        replace h := Option.bind_eq_some_iff.mp h; obtain ⟨r15, hr15, h⟩ := h
        refine ev_invS (M1 := M_X10_isColumn) (as := [vi v3]) dX10_see_24 rfl tw_624 cal_X10_isColumn tw_625 (by decide) rfl rfl (Nat.le_of_ble_eq_true rfl) (met_X10_isColumn v3 w _ hr15) ?_
        by_cases hc : r15 = 0
        · rw [if_pos hc] at h
          refine ev_if_ne_f (q := 30) (t0 := 33) dX10_see_27 (by decide) rfl hc ?_
          exact ev_weak _ (mLe_none (mLe_none (mLe_none (mLe_none mLe_nil)))) (e_X10_see_J30 w _ h)
        · rw [if_neg hc] at h
          refine ev_if_ne_t (q := 33) dX10_see_27 (by decide) hc ?_
          exact ev_weak _ (mLe_some (mLe_some (mLe_some (mLe_some mLe_nil)))) (e_X10_see_J33 o v1 v2 v3 w _ h)
def f_X0_init (o : Nat) (w : mW) : Option (Unit) := Option.bind (f_X8_init o  w) fun r1 => some (())
set_option maxRecDepth 100000 in
set_option maxHeartbeats 4000000 in
theorem met_X0_init (o : Nat) (w : mW) (res : Unit) (h : f_X0_init o w = some res) : mMet M_X0_init 2 [vr ((some o))] w none w := by
  refine ev_met (n := 0) (by decide) rfl fun X => ?_
  unfold f_X0_init at h
  show mEv X M_X0_init 2 _ _ 0 [some (vr ((some o)))] [] w
  refine ev_aload_n (q := 1) dX0_init_0 rfl rfl ?_
  replace h := Option.bind_eq_some_iff.mp h; obtain ⟨r1, hr1, h⟩ := h
  refine ev_invIN (M1 := M_X8_init) (as := []) dX0_init_1 rfl tw_469 cal_X8_init tw_470 rfl rfl (by decide) rfl rfl (Nat.le_of_ble_eq_true rfl) (met_X8_init o  w _ hr1) ?_
  cases h
  exact ev_vret dX0_init_4 rfl
def f_X1_spreads_J22 (s0 : Int32) (w : mW) : Option (Int32) := if s0 = 0 ∨ s0 = 1 then some (s0) else none
set_option maxRecDepth 100000 in
set_option maxHeartbeats 4000000 in
theorem e_X1_spreads_J22 {X : mXs} (s0 : Int32) (w : mW) (res : Int32) (h : f_X1_spreads_J22 s0 w = some res) : mEv X M_X1_spreads 2 (some (vi res)) w 22 [none, none, none] [vi s0] w := by
  unfold f_X1_spreads_J22 at h
  by_cases hz : s0 = 0 ∨ s0 = 1
  · rw [if_pos hz] at h
    cases h
    exact ev_zret dX1_spreads_22 rfl hz
  · rw [if_neg hz] at h
    cases h
def f_X1_spreads_J21 (w : mW) : Option (Int32) := f_X1_spreads_J22 (0 : Int32) w
set_option maxRecDepth 100000 in
set_option maxHeartbeats 4000000 in
theorem e_X1_spreads_J21 {X : mXs} (w : mW) (res : Int32) (h : f_X1_spreads_J21 w = some res) : mEv X M_X1_spreads 2 (some (vi res)) w 21 [none, none, none] [] w := by
  unfold f_X1_spreads_J21 at h
  refine ev_iconst (q := 22) (v := (0 : Int32)) dX1_spreads_21 rfl (by decide) ?_
  exact ev_weak _ (mLe_none (mLe_none (mLe_none mLe_nil))) (e_X1_spreads_J22 (0 : Int32) w _ h)
def f_X1_spreads_J17 (w : mW) : Option (Int32) := f_X1_spreads_J22 (1 : Int32) w
set_option maxRecDepth 100000 in
set_option maxHeartbeats 4000000 in
theorem e_X1_spreads_J17 {X : mXs} (w : mW) (res : Int32) (h : f_X1_spreads_J17 w = some res) : mEv X M_X1_spreads 2 (some (vi res)) w 17 [none, none, none] [] w := by
  unfold f_X1_spreads_J17 at h
  refine ev_iconst (q := 18) (v := (1 : Int32)) dX1_spreads_17 rfl (by decide) ?_
  refine ev_goto (q := 22) dX1_spreads_18 (by decide) ?_
  exact ev_weak _ (mLe_none (mLe_none (mLe_none mLe_nil))) (e_X1_spreads_J22 (1 : Int32) w _ h)
def f_X1_spreads (o : Nat) (v1 : Int32) (v2 : Int32) (w : mW) : Option (Int32) := Option.bind (kO w (some o) 1) fun _ => Option.bind (f_X9_spreads o v1 v2 w) fun r1 => if r1 = 0 then (f_X1_spreads_J21 w) else (if v1 = 0 then (if v2 = 0 then (f_X1_spreads_J21 w) else (f_X1_spreads_J17 w)) else (f_X1_spreads_J17 w))
set_option maxRecDepth 100000 in
set_option maxHeartbeats 4000000 in
theorem met_X1_spreads (o : Nat) (v1 : Int32) (v2 : Int32) (w : mW) (res : Int32) (h : f_X1_spreads o v1 v2 w = some res) : mMet M_X1_spreads 2 [vr ((some o)), vi v1, vi v2] w (some (vi res)) w := by
  refine ev_met (n := 0) (by decide) rfl fun X => ?_
  unfold f_X1_spreads at h
  show mEv X M_X1_spreads 2 _ _ 0 [some (vr ((some o))), some (vi v1), some (vi v2)] [] w
  refine ev_aload_n (q := 1) dX1_spreads_0 rfl rfl ?_
  refine ev_iload_n (q := 2) dX1_spreads_1 rfl rfl ?_
  refine ev_iload_n (q := 3) dX1_spreads_2 rfl rfl ?_
  replace h := Option.bind_eq_some_iff.mp h; obtain ⟨q2, hq2, h⟩ := h
  obtain ⟨hxq2, fsq2, hkq2⟩ := kO_spec hq2
  cases hxq2
  replace h := Option.bind_eq_some_iff.mp h; obtain ⟨r1, hr1, h⟩ := h
  refine ev_invSu (M1 := M_X9_spreads) (as := [vi v1, vi v2]) (C1 := RX1) dX1_spreads_3 rfl tw_541 tw_1230 tw_494 cal_X9_spreads tw_542 (by decide) (by decide) rfl rfl (Nat.le_of_ble_eq_true rfl) hkq2 rfl (met_X9_spreads o v1 v2 w _ hr1) ?_
  by_cases hc : r1 = 0
  · rw [if_pos hc] at h
    refine ev_if_eq_t (q := 21) dX1_spreads_6 (by decide) hc ?_
    exact ev_weak _ (mLe_none (mLe_none (mLe_none mLe_nil))) (e_X1_spreads_J21 w _ h)
  · rw [if_neg hc] at h
    refine ev_if_eq_f (q := 9) (t0 := 21) dX1_spreads_6 (by decide) rfl hc ?_
    refine ev_iload_n (q := 10) dX1_spreads_9 rfl rfl ?_
    by_cases hc : v1 = 0
    · rw [if_pos hc] at h
      refine ev_if_ne_f (q := 13) (t0 := 17) dX1_spreads_10 (by decide) rfl hc ?_
      refine ev_iload_n (q := 14) dX1_spreads_13 rfl rfl ?_
      by_cases hc : v2 = 0
      · rw [if_pos hc] at h
        refine ev_if_eq_t (q := 21) dX1_spreads_14 (by decide) hc ?_
        exact ev_weak _ (mLe_none (mLe_none (mLe_none mLe_nil))) (e_X1_spreads_J21 w _ h)
      · rw [if_neg hc] at h
        refine ev_if_eq_f (q := 17) (t0 := 21) dX1_spreads_14 (by decide) rfl hc ?_
        exact ev_weak _ (mLe_none (mLe_none (mLe_none mLe_nil))) (e_X1_spreads_J17 w _ h)
    · rw [if_neg hc] at h
      refine ev_if_ne_t (q := 17) dX1_spreads_10 (by decide) hc ?_
      exact ev_weak _ (mLe_none (mLe_none (mLe_none mLe_nil))) (e_X1_spreads_J17 w _ h)
def dv_kind (x : Option Nat) (w : mW) : Option Int32 := Option.bind (tO w x) fun c => if c = 8 then f_X8_kind (x.getD 0) w else if c = 0 then f_X0_kind (x.getD 0) w else if c = 9 then f_X9_kind (x.getD 0) w else if c = 7 then f_X7_kind (x.getD 0) w else f_X1_kind (x.getD 0) w
def dv_batter (x : Option Nat) (w : mW) : Option Int32 := Option.bind (tO w x) fun c => if c = 8 then f_X8_batter (x.getD 0) w else if c = 0 then f_X0_batter (x.getD 0) w else if c = 9 then f_X9_batter (x.getD 0) w else if c = 7 then f_X7_batter (x.getD 0) w else f_X1_batter (x.getD 0) w
def dv_spreads (x : Option Nat) (a b : Int32) (w : mW) : Option Int32 := Option.bind (tO w x) fun c => if c = 8 then f_X8_spreads (x.getD 0) a b w else if c = 0 then f_X0_spreads (x.getD 0) a b w else if c = 9 then f_X9_spreads (x.getD 0) a b w else if c = 7 then f_X7_spreads (x.getD 0) a b w else f_X1_spreads (x.getD 0) a b w
set_option maxRecDepth 100000 in
theorem ev_dv_kind {X : mXs} {M : mM} {d : Nat} {r : Option mV} {w' : mW} {pc q : Nat} {L : List (Option mV)} {st : List mV} {w : mW} {idx : Nat} {x : Option Nat} { v : Int32} (hd : decode M.2.1 pc = .ok (.invokevirtual idx, 3)) (hq : pc + 3 = q) (hl : Cond.methodLink M.1.cls idx ⟨"PancakePort$Tosser", "kind", "()I"⟩ ∈ mWS) (hdd : 1 ≤ d) (hrs : (st.map mcat).sum ≤ 8) (h : dv_kind x  w = some v) (kk : mEv X M d r w' q L (vi v :: st) w) : mEv X M d r w' pc L (vr x :: st) w := by
  obtain ⟨c, hc, h⟩ := Option.bind_eq_some_iff.mp h
  obtain ⟨a0, fs, rfl, hw, hci⟩ := tO_spec hc
  rcases hci with rfl | rfl | rfl | rfl | rfl
  · rw [if_pos rfl] at h
    exact ev_invV (as := []) hd hq hl cal_X8_kind tw_561 tw_562 (by omega) rfl rfl hrs hw rfl (met_X8_kind a0  w _ h) kk
  · rw [if_neg (by decide), if_pos rfl] at h
    exact ev_invO (as := []) (x := ⟨"PancakePort$Tosser", "kind", "()I"⟩) hd hq hl tw_563 tw_561 tw_576 tw_564 cal_X0_kind tw_565 ⟨by decide, by decide, by decide +kernel⟩ (by omega) rfl rfl hrs hw rfl (met_X0_kind a0  w _ h) kk
  · rw [if_neg (by decide), if_neg (by decide), if_pos rfl] at h
    exact ev_invO (as := []) (x := ⟨"PancakePort$Tosser", "kind", "()I"⟩) hd hq hl tw_563 tw_561 tw_576 tw_573 cal_X9_kind tw_574 ⟨by decide, by decide, by decide +kernel⟩ (by omega) rfl rfl hrs hw rfl (met_X9_kind a0  w _ h) kk
  · rw [if_neg (by decide), if_neg (by decide), if_neg (by decide), if_pos rfl] at h
    exact ev_invO (as := []) (x := ⟨"PancakePort$Tosser", "kind", "()I"⟩) hd hq hl tw_563 tw_561 tw_576 tw_570 cal_X7_kind tw_571 ⟨by decide, by decide, by decide +kernel⟩ (by omega) rfl rfl hrs hw rfl (met_X7_kind a0  w _ h) kk
  · rw [if_neg (by decide), if_neg (by decide), if_neg (by decide), if_neg (by decide)] at h
    exact ev_invO (as := []) (x := ⟨"PancakePort$Tosser", "kind", "()I"⟩) hd hq hl tw_563 tw_561 tw_576 tw_567 cal_X1_kind tw_568 ⟨by decide, by decide, by decide +kernel⟩ (by omega) rfl rfl hrs hw rfl (met_X1_kind a0  w _ h) kk
set_option maxRecDepth 100000 in
theorem ev_dv_batter {X : mXs} {M : mM} {d : Nat} {r : Option mV} {w' : mW} {pc q : Nat} {L : List (Option mV)} {st : List mV} {w : mW} {idx : Nat} {x : Option Nat} { v : Int32} (hd : decode M.2.1 pc = .ok (.invokevirtual idx, 3)) (hq : pc + 3 = q) (hl : Cond.methodLink M.1.cls idx ⟨"PancakePort$Tosser", "batter", "()I"⟩ ∈ mWS) (hdd : 1 ≤ d) (hrs : (st.map mcat).sum ≤ 8) (h : dv_batter x  w = some v) (kk : mEv X M d r w' q L (vi v :: st) w) : mEv X M d r w' pc L (vr x :: st) w := by
  obtain ⟨c, hc, h⟩ := Option.bind_eq_some_iff.mp h
  obtain ⟨a0, fs, rfl, hw, hci⟩ := tO_spec hc
  rcases hci with rfl | rfl | rfl | rfl | rfl
  · rw [if_pos rfl] at h
    exact ev_invV (as := []) hd hq hl cal_X8_batter tw_578 tw_579 (by omega) rfl rfl hrs hw rfl (met_X8_batter a0  w _ h) kk
  · rw [if_neg (by decide), if_pos rfl] at h
    exact ev_invO (as := []) (x := ⟨"PancakePort$Tosser", "batter", "()I"⟩) hd hq hl tw_580 tw_578 tw_593 tw_581 cal_X0_batter tw_582 ⟨by decide, by decide, by decide +kernel⟩ (by omega) rfl rfl hrs hw rfl (met_X0_batter a0  w _ h) kk
  · rw [if_neg (by decide), if_neg (by decide), if_pos rfl] at h
    exact ev_invO (as := []) (x := ⟨"PancakePort$Tosser", "batter", "()I"⟩) hd hq hl tw_580 tw_578 tw_593 tw_590 cal_X9_batter tw_591 ⟨by decide, by decide, by decide +kernel⟩ (by omega) rfl rfl hrs hw rfl (met_X9_batter a0  w _ h) kk
  · rw [if_neg (by decide), if_neg (by decide), if_neg (by decide), if_pos rfl] at h
    exact ev_invO (as := []) (x := ⟨"PancakePort$Tosser", "batter", "()I"⟩) hd hq hl tw_580 tw_578 tw_593 tw_587 cal_X7_batter tw_588 ⟨by decide, by decide, by decide +kernel⟩ (by omega) rfl rfl hrs hw rfl (met_X7_batter a0  w _ h) kk
  · rw [if_neg (by decide), if_neg (by decide), if_neg (by decide), if_neg (by decide)] at h
    exact ev_invO (as := []) (x := ⟨"PancakePort$Tosser", "batter", "()I"⟩) hd hq hl tw_580 tw_578 tw_593 tw_584 cal_X1_batter tw_585 ⟨by decide, by decide, by decide +kernel⟩ (by omega) rfl rfl hrs hw rfl (met_X1_batter a0  w _ h) kk
set_option maxRecDepth 100000 in
theorem ev_dv_spreads {X : mXs} {M : mM} {d : Nat} {r : Option mV} {w' : mW} {pc q : Nat} {L : List (Option mV)} {st : List mV} {w : mW} {idx : Nat} {x : Option Nat} {a b v : Int32} (hd : decode M.2.1 pc = .ok (.invokevirtual idx, 3)) (hq : pc + 3 = q) (hl : Cond.methodLink M.1.cls idx ⟨"PancakePort$Tosser", "spreads", "(II)Z"⟩ ∈ mWS) (hdd : 3 ≤ d) (hrs : (st.map mcat).sum ≤ 8) (h : dv_spreads x a b w = some v) (kk : mEv X M d r w' q L (vi v :: st) w) : mEv X M d r w' pc L (vi b :: vi a :: vr x :: st) w := by
  obtain ⟨c, hc, h⟩ := Option.bind_eq_some_iff.mp h
  obtain ⟨a0, fs, rfl, hw, hci⟩ := tO_spec hc
  rcases hci with rfl | rfl | rfl | rfl | rfl
  · rw [if_pos rfl] at h
    exact ev_invV (as := [vi a, vi b]) hd hq hl cal_X8_spreads tw_529 tw_530 (by omega) rfl rfl hrs hw rfl (met_X8_spreads a0 a b w _ h) kk
  · rw [if_neg (by decide), if_pos rfl] at h
    exact ev_invO (as := [vi a, vi b]) (x := ⟨"PancakePort$Tosser", "spreads", "(II)Z"⟩) hd hq hl tw_531 tw_529 tw_550 tw_532 cal_X0_spreads tw_533 ⟨by decide, by decide, by decide +kernel⟩ (by omega) rfl rfl hrs hw rfl (met_X0_spreads a0 a b w _ h) kk
  · rw [if_neg (by decide), if_neg (by decide), if_pos rfl] at h
    exact ev_invO (as := [vi a, vi b]) (x := ⟨"PancakePort$Tosser", "spreads", "(II)Z"⟩) hd hq hl tw_531 tw_529 tw_550 tw_549 cal_X9_spreads tw_542 ⟨by decide, by decide, by decide +kernel⟩ (by omega) rfl rfl hrs hw rfl (met_X9_spreads a0 a b w _ h) kk
  · rw [if_neg (by decide), if_neg (by decide), if_neg (by decide), if_pos rfl] at h
    exact ev_invO (as := [vi a, vi b]) (x := ⟨"PancakePort$Tosser", "spreads", "(II)Z"⟩) hd hq hl tw_531 tw_529 tw_550 tw_545 cal_X7_spreads tw_546 ⟨by decide, by decide, by decide +kernel⟩ (by omega) rfl rfl hrs hw rfl (met_X7_spreads a0 a b w _ h) kk
  · rw [if_neg (by decide), if_neg (by decide), if_neg (by decide), if_neg (by decide)] at h
    exact ev_invO (as := [vi a, vi b]) (x := ⟨"PancakePort$Tosser", "spreads", "(II)Z"⟩) hd hq hl tw_531 tw_529 tw_550 tw_538 cal_X1_spreads tw_539 ⟨by decide, by decide, by decide +kernel⟩ (by omega) rfl rfl hrs hw rfl (met_X1_spreads a0 a b w _ h) kk
def f_X2_init (o : Nat) (w : mW) : Option (mW) := Option.bind (some (w ++ [.inr (.inl (6, fun _ => 0))])) fun w1 => Option.bind (pR w1 (some o) 2 0 (some w.length)) fun w2 => Option.bind (some (w2 ++ [.inr (.inl (6, fun _ => 0))])) fun w3 => Option.bind (pR w3 (some o) 2 1 (some w2.length)) fun w4 => Option.bind (some (w4 ++ [.inr (.inl (6, fun _ => 0))])) fun w5 => Option.bind (pR w5 (some o) 2 2 (some w4.length)) fun w6 => Option.bind (some (w6 ++ [.inr (.inl (4, fun _ => 0))])) fun w7 => Option.bind (pR w7 (some o) 2 3 (some w6.length)) fun w8 => Option.bind (some (w8 ++ [.inr (.inl (4, fun _ => 0))])) fun w9 => Option.bind (pR w9 (some o) 2 4 (some w8.length)) fun w10 => Option.bind (some (w10 ++ [.inr (.inl (4, fun _ => 0))])) fun w11 => Option.bind (pR w11 (some o) 2 5 (some w10.length)) fun w12 => Option.bind (some (w12 ++ [.inl (6, new_X6)])) fun w13 => Option.bind (f_X6_init w12.length  w13) fun w14 => Option.bind (pR w14 (some o) 2 6 (some w12.length)) fun w15 => some (w15)
set_option maxRecDepth 100000 in
set_option maxHeartbeats 4000000 in
theorem met_X2_init (o : Nat) (w : mW) (res : mW) (h : f_X2_init o w = some res) : mMet M_X2_init 2 [vr ((some o))] w none res := by
  refine ev_met (n := 0) (by decide) rfl fun X => ?_
  unfold f_X2_init at h
  show mEv X M_X2_init 2 _ _ 0 [some (vr ((some o)))] [] w
  refine ev_aload_n (q := 1) dX2_init_0 rfl rfl ?_
  refine ev_obj (q := 4) dX2_init_1 rfl tw_151 tw_obji tw_objc (by decide) (Nat.le_of_ble_eq_true rfl) ?_
  refine ev_aload_n (q := 5) dX2_init_4 rfl rfl ?_
  refine ev_bipush (q := 7) (v := (6 : Int32)) dX2_init_5 rfl (by decide) ?_
  replace h := Option.bind_eq_some_iff.mp h; obtain ⟨w1, hw1, h⟩ := h
  cases hw1
  refine ev_newi (N := 6) dX2_init_7 rfl tw_106 (by decide) (by decide) (by decide) ?_
  replace h := Option.bind_eq_some_iff.mp h; obtain ⟨w2, hw2, h⟩ := h
  refine ev_pRF dX2_init_9 rfl mFit_a fp_X2_9 hw2 rfl ?_
  refine ev_aload_n (q := 13) dX2_init_12 rfl rfl ?_
  refine ev_bipush (q := 15) (v := (6 : Int32)) dX2_init_13 rfl (by decide) ?_
  replace h := Option.bind_eq_some_iff.mp h; obtain ⟨w3, hw3, h⟩ := h
  cases hw3
  refine ev_newi (N := 6) dX2_init_15 rfl tw_106 (by decide) (by decide) (by decide) ?_
  replace h := Option.bind_eq_some_iff.mp h; obtain ⟨w4, hw4, h⟩ := h
  refine ev_pRF dX2_init_17 rfl mFit_a fp_X2_15 hw4 rfl ?_
  refine ev_aload_n (q := 21) dX2_init_20 rfl rfl ?_
  refine ev_bipush (q := 23) (v := (6 : Int32)) dX2_init_21 rfl (by decide) ?_
  replace h := Option.bind_eq_some_iff.mp h; obtain ⟨w5, hw5, h⟩ := h
  cases hw5
  refine ev_newi (N := 6) dX2_init_23 rfl tw_106 (by decide) (by decide) (by decide) ?_
  replace h := Option.bind_eq_some_iff.mp h; obtain ⟨w6, hw6, h⟩ := h
  refine ev_pRF dX2_init_25 rfl mFit_a fp_X2_18 hw6 rfl ?_
  refine ev_aload_n (q := 29) dX2_init_28 rfl rfl ?_
  refine ev_iconst (q := 30) (v := (4 : Int32)) dX2_init_29 rfl (by decide) ?_
  replace h := Option.bind_eq_some_iff.mp h; obtain ⟨w7, hw7, h⟩ := h
  cases hw7
  refine ev_newi (N := 4) dX2_init_30 rfl tw_106 (by decide) (by decide) (by decide) ?_
  replace h := Option.bind_eq_some_iff.mp h; obtain ⟨w8, hw8, h⟩ := h
  refine ev_pRF dX2_init_32 rfl mFit_a fp_X2_21 hw8 rfl ?_
  refine ev_aload_n (q := 36) dX2_init_35 rfl rfl ?_
  refine ev_iconst (q := 37) (v := (4 : Int32)) dX2_init_36 rfl (by decide) ?_
  replace h := Option.bind_eq_some_iff.mp h; obtain ⟨w9, hw9, h⟩ := h
  cases hw9
  refine ev_newi (N := 4) dX2_init_37 rfl tw_106 (by decide) (by decide) (by decide) ?_
  replace h := Option.bind_eq_some_iff.mp h; obtain ⟨w10, hw10, h⟩ := h
  refine ev_pRF dX2_init_39 rfl mFit_a fp_X2_24 hw10 rfl ?_
  refine ev_aload_n (q := 43) dX2_init_42 rfl rfl ?_
  refine ev_iconst (q := 44) (v := (4 : Int32)) dX2_init_43 rfl (by decide) ?_
  replace h := Option.bind_eq_some_iff.mp h; obtain ⟨w11, hw11, h⟩ := h
  cases hw11
  refine ev_newi (N := 4) dX2_init_44 rfl tw_106 (by decide) (by decide) (by decide) ?_
  replace h := Option.bind_eq_some_iff.mp h; obtain ⟨w12, hw12, h⟩ := h
  refine ev_pRF dX2_init_46 rfl mFit_a fp_X2_27 hw12 rfl ?_
  refine ev_aload_n (q := 50) dX2_init_49 rfl rfl ?_
  replace h := Option.bind_eq_some_iff.mp h; obtain ⟨w13, hw13, h⟩ := h
  cases hw13
  refine ev_new (ci := 6) (fs := new_X6) tyX6 dX2_init_50 rfl rfl inm_X6 tyX6_ok tw_152 tw_153 tw_66 rfl new_X6_ok ?_
  refine ev_dup (q := 54) dX2_init_53 rfl rfl ?_
  replace h := Option.bind_eq_some_iff.mp h; obtain ⟨w14, hw14, h⟩ := h
  refine ev_invIN (M1 := M_X6_init) (as := []) dX2_init_54 rfl tw_154 cal_X6_init tw_155 rfl rfl (by decide) rfl rfl (Nat.le_of_ble_eq_true rfl) (met_X6_init w12.length  (w12 ++ [.inl (6, new_X6)]) _ hw14) ?_
  replace h := Option.bind_eq_some_iff.mp h; obtain ⟨w15, hw15, h⟩ := h
  refine ev_pRF dX2_init_57 rfl mFit_o fp_X2_33 hw15 rfl ?_
  cases h
  exact ev_vret dX2_init_60 rfl
def f_X2_begin (o : Nat) (v1 : Option Nat) (w : mW) : Option (mW) := oC v1 (some (w)) (fun a1 => Option.bind (gR w (some a1) 5 0) fun r2 => Option.bind (gR w (some o) 2 0) fun r3 => Option.bind (f_X10_copy r2 r3 w) fun w4 => Option.bind (gR w4 (some a1) 5 2) fun r5 => Option.bind (gR w4 (some o) 2 3) fun r6 => Option.bind (f_X10_copy r5 r6 w4) fun w7 => Option.bind (gR w7 (some a1) 5 3) fun r8 => Option.bind (gR w7 (some o) 2 4) fun r9 => Option.bind (f_X10_copy r8 r9 w7) fun w10 => Option.bind (gR w10 (some o) 2 1) fun r11 => Option.bind (f_X10_clear r11 w10) fun w12 => Option.bind (gR w12 (some o) 2 2) fun r13 => Option.bind (f_X10_clear r13 w12) fun w14 => Option.bind (gR w14 (some o) 2 5) fun r15 => Option.bind (f_X10_clear r15 w14) fun w16 => Option.bind (gR w16 (some o) 2 6) fun r17 => Option.bind (pI w16 r17 6 3 (0 : Int32)) fun w18 => Option.bind (pI w18 (some o) 2 7 (0 : Int32)) fun w19 => Option.bind (pI w19 (some o) 2 8 (0 : Int32)) fun w20 => Option.bind (pI w20 (some o) 2 9 (60 : Int32)) fun w21 => Option.bind (pI w21 (some o) 2 10 (0 : Int32)) fun w22 => Option.bind (pI w22 (some o) 2 11 (0 : Int32)) fun w23 => some (w23))
set_option maxRecDepth 100000 in
set_option maxHeartbeats 4000000 in
theorem met_X2_begin (o : Nat) (v1 : Option Nat) (w : mW) (res : mW) (h : f_X2_begin o v1 w = some res) : mMet M_X2_begin 2 [vr ((some o)), vr v1] w none res := by
  refine ev_met (n := 0) (by decide) rfl fun X => ?_
  unfold f_X2_begin at h
  show mEv X M_X2_begin 2 _ _ 0 [some (vr ((some o))), some (vr v1)] [] w
  refine ev_aload_n (q := 1) dX2_begin_0 rfl rfl ?_
  rcases v1 with _ | a1
  · dsimp only [oC] at h
    refine ev_ifnonnull_f (q := 4) dX2_begin_1 rfl ?_
    cases h
    exact ev_vret dX2_begin_4 rfl
  · dsimp only [oC] at h
    refine ev_ifnonnull_t (q := 5) dX2_begin_1 (by decide) ?_
    refine ev_aload_n (q := 6) dX2_begin_5 rfl rfl ?_
    replace h := Option.bind_eq_some_iff.mp h; obtain ⟨r2, hr2, h⟩ := h
    refine ev_gR dX2_begin_6 fl_X2_37 hr2 rfl ?_
    refine ev_aload_n (q := 10) dX2_begin_9 rfl rfl ?_
    replace h := Option.bind_eq_some_iff.mp h; obtain ⟨r3, hr3, h⟩ := h
    refine ev_gR dX2_begin_10 fl_X2_9 hr3 rfl ?_
    replace h := Option.bind_eq_some_iff.mp h; obtain ⟨w4, hw4, h⟩ := h
    refine ev_invSN (M1 := M_X10_copy) (as := [vr r2, vr r3]) dX2_begin_13 rfl tw_453 cal_X10_copy tw_454 (by decide) rfl rfl (Nat.le_of_ble_eq_true rfl) (met_X10_copy r2 r3 w _ hw4) ?_
    refine ev_aload_n (q := 17) dX2_begin_16 rfl rfl ?_
    replace h := Option.bind_eq_some_iff.mp h; obtain ⟨r5, hr5, h⟩ := h
    refine ev_gR dX2_begin_17 fl_X2_44 hr5 rfl ?_
    refine ev_aload_n (q := 21) dX2_begin_20 rfl rfl ?_
    replace h := Option.bind_eq_some_iff.mp h; obtain ⟨r6, hr6, h⟩ := h
    refine ev_gR dX2_begin_21 fl_X2_21 hr6 rfl ?_
    replace h := Option.bind_eq_some_iff.mp h; obtain ⟨w7, hw7, h⟩ := h
    refine ev_invSN (M1 := M_X10_copy) (as := [vr r5, vr r6]) dX2_begin_24 rfl tw_453 cal_X10_copy tw_454 (by decide) rfl rfl (Nat.le_of_ble_eq_true rfl) (met_X10_copy r5 r6 w4 _ hw7) ?_
    refine ev_aload_n (q := 28) dX2_begin_27 rfl rfl ?_
    replace h := Option.bind_eq_some_iff.mp h; obtain ⟨r8, hr8, h⟩ := h
    refine ev_gR dX2_begin_28 fl_X2_45 hr8 rfl ?_
    refine ev_aload_n (q := 32) dX2_begin_31 rfl rfl ?_
    replace h := Option.bind_eq_some_iff.mp h; obtain ⟨r9, hr9, h⟩ := h
    refine ev_gR dX2_begin_32 fl_X2_24 hr9 rfl ?_
    replace h := Option.bind_eq_some_iff.mp h; obtain ⟨w10, hw10, h⟩ := h
    refine ev_invSN (M1 := M_X10_copy) (as := [vr r8, vr r9]) dX2_begin_35 rfl tw_453 cal_X10_copy tw_454 (by decide) rfl rfl (Nat.le_of_ble_eq_true rfl) (met_X10_copy r8 r9 w7 _ hw10) ?_
    refine ev_aload_n (q := 39) dX2_begin_38 rfl rfl ?_
    replace h := Option.bind_eq_some_iff.mp h; obtain ⟨r11, hr11, h⟩ := h
    refine ev_gR dX2_begin_39 fl_X2_15 hr11 rfl ?_
    replace h := Option.bind_eq_some_iff.mp h; obtain ⟨w12, hw12, h⟩ := h
    refine ev_invSN (M1 := M_X10_clear) (as := [vr r11]) dX2_begin_42 rfl tw_457 cal_X10_clear tw_458 (by decide) rfl rfl (Nat.le_of_ble_eq_true rfl) (met_X10_clear r11 w10 _ hw12) ?_
    refine ev_aload_n (q := 46) dX2_begin_45 rfl rfl ?_
    replace h := Option.bind_eq_some_iff.mp h; obtain ⟨r13, hr13, h⟩ := h
    refine ev_gR dX2_begin_46 fl_X2_18 hr13 rfl ?_
    replace h := Option.bind_eq_some_iff.mp h; obtain ⟨w14, hw14, h⟩ := h
    refine ev_invSN (M1 := M_X10_clear) (as := [vr r13]) dX2_begin_49 rfl tw_457 cal_X10_clear tw_458 (by decide) rfl rfl (Nat.le_of_ble_eq_true rfl) (met_X10_clear r13 w12 _ hw14) ?_
    refine ev_aload_n (q := 53) dX2_begin_52 rfl rfl ?_
    replace h := Option.bind_eq_some_iff.mp h; obtain ⟨r15, hr15, h⟩ := h
    refine ev_gR dX2_begin_53 fl_X2_27 hr15 rfl ?_
    replace h := Option.bind_eq_some_iff.mp h; obtain ⟨w16, hw16, h⟩ := h
    refine ev_invSN (M1 := M_X10_clear) (as := [vr r15]) dX2_begin_56 rfl tw_457 cal_X10_clear tw_458 (by decide) rfl rfl (Nat.le_of_ble_eq_true rfl) (met_X10_clear r15 w14 _ hw16) ?_
    refine ev_aload_n (q := 60) dX2_begin_59 rfl rfl ?_
    replace h := Option.bind_eq_some_iff.mp h; obtain ⟨r17, hr17, h⟩ := h
    refine ev_gR dX2_begin_60 fl_X2_33 hr17 rfl ?_
    refine ev_iconst (q := 64) (v := (0 : Int32)) dX2_begin_63 rfl (by decide) ?_
    replace h := Option.bind_eq_some_iff.mp h; obtain ⟨w18, hw18, h⟩ := h
    refine ev_pI dX2_begin_64 fp_X2_50 hw18 rfl ?_
    refine ev_aload_n (q := 68) dX2_begin_67 rfl rfl ?_
    refine ev_iconst (q := 69) (v := (0 : Int32)) dX2_begin_68 rfl (by decide) ?_
    replace h := Option.bind_eq_some_iff.mp h; obtain ⟨w19, hw19, h⟩ := h
    refine ev_pI dX2_begin_69 fp_X2_54 hw19 rfl ?_
    refine ev_aload_n (q := 73) dX2_begin_72 rfl rfl ?_
    refine ev_iconst (q := 74) (v := (0 : Int32)) dX2_begin_73 rfl (by decide) ?_
    replace h := Option.bind_eq_some_iff.mp h; obtain ⟨w20, hw20, h⟩ := h
    refine ev_pI dX2_begin_74 fp_X2_57 hw20 rfl ?_
    refine ev_aload_n (q := 78) dX2_begin_77 rfl rfl ?_
    refine ev_bipush (q := 80) (v := (60 : Int32)) dX2_begin_78 rfl (by decide) ?_
    replace h := Option.bind_eq_some_iff.mp h; obtain ⟨w21, hw21, h⟩ := h
    refine ev_pI dX2_begin_80 fp_X2_60 hw21 rfl ?_
    refine ev_aload_n (q := 84) dX2_begin_83 rfl rfl ?_
    refine ev_iconst (q := 85) (v := (0 : Int32)) dX2_begin_84 rfl (by decide) ?_
    replace h := Option.bind_eq_some_iff.mp h; obtain ⟨w22, hw22, h⟩ := h
    refine ev_pI dX2_begin_85 fp_X2_63 hw22 rfl ?_
    refine ev_aload_n (q := 89) dX2_begin_88 rfl rfl ?_
    refine ev_iconst (q := 90) (v := (0 : Int32)) dX2_begin_89 rfl (by decide) ?_
    replace h := Option.bind_eq_some_iff.mp h; obtain ⟨w23, hw23, h⟩ := h
    refine ev_pI dX2_begin_90 fp_X2_66 hw23 rfl ?_
    cases h
    exact ev_vret dX2_begin_93 rfl
def f_X4_choose_L9 (o : Nat) : Nat → Int32 → Int32 → mW → Option (mW)
  | 0, _, _, _ => none
  | n + 1, v2, v3, w => if (6 : Int32) ≤ v3 then (some (w)) else (if v2 = 0 then (some (w)) else (Option.bind (gI w (some o) 4 6) fun r1 => if (1048576 : Int32) ≤ r1 then (some (w)) else (Option.bind (kO w (some o) 4) fun _ => Option.bind (f_X4_firstFor o v2 w) fun r2 => Option.bind (gR w (some o) 4 4) fun r4 => Option.bind (f_X10_put r4 v3 r2 w) fun w5 => Option.bind (gI w5 (some o) 4 5) fun r6 => Option.bind (pI w5 (some o) 4 5 (r6 + (1 : Int32))) fun w7 => Option.bind (gR w7 (some o) 4 0) fun r8 => Option.bind (f_X10_at r8 r2 w7) fun r9 => (f_X4_choose_L9 o n) (v2 &&& (r9 ^^^ (-1 : Int32))) (v3 + (1 : Int32)) w7)))
set_option maxRecDepth 100000 in
set_option maxHeartbeats 4000000 in
theorem e_X4_choose_L9 {X : mXs} {r : Option mV} {w' : mW} (P : (mW) → Prop) (o : Nat) (hexit : ∀ y, P y → mEv X M_X4_choose 2 r w' 75 [none, none, none, none, none] [] y) : ∀ (n : Nat) (v2 : Int32) (v3 : Int32) (w : mW) (e : mW), f_X4_choose_L9 o n v2 v3 w = some e → P e → mEv X M_X4_choose 2 r w' 9 [some (vr ((some o))), none, some (vi v2), some (vi v3), none] [] w := by
  intro n
  induction n with
  | zero =>
    intro v2 v3 w e h hP
    rw [f_X4_choose_L9] at h
    cases h
  | succ n hk =>
    intro v2 v3 w e h hP
    rw [f_X4_choose_L9] at h
    refine ev_iload_n (q := 10) dX4_choose_9 rfl rfl ?_
    refine ev_bipush (q := 12) (v := (6 : Int32)) dX4_choose_10 rfl (by decide) ?_
    by_cases hc : (6 : Int32) ≤ v3
    · rw [if_pos hc] at h
      refine ev_icmp_ge_t (q := 75) dX4_choose_12 (by decide) hc ?_
      cases h
      exact ev_weak _ (mLe_none (mLe_none (mLe_none (mLe_none (mLe_none mLe_nil))))) (hexit _ hP)
    · rw [if_neg hc] at h
      refine ev_icmp_ge_f (q := 15) (t0 := 75) dX4_choose_12 (by decide) rfl hc ?_
      refine ev_iload_n (q := 16) dX4_choose_15 rfl rfl ?_
      by_cases hc : v2 = 0
      · rw [if_pos hc] at h
        refine ev_if_eq_t (q := 75) dX4_choose_16 (by decide) hc ?_
        cases h
        exact ev_weak _ (mLe_none (mLe_none (mLe_none (mLe_none (mLe_none mLe_nil))))) (hexit _ hP)
      · rw [if_neg hc] at h
        refine ev_if_eq_f (q := 19) (t0 := 75) dX4_choose_16 (by decide) rfl hc ?_
        refine ev_aload_n (q := 20) dX4_choose_19 rfl rfl ?_
        replace h := Option.bind_eq_some_iff.mp h; obtain ⟨r1, hr1, h⟩ := h
        refine ev_gI dX4_choose_20 fl_X4_50 hr1 rfl ?_
        refine ev_ldc (q := 25) (v := (1048576 : Int32)) dX4_choose_23 rfl tw_710 ?_
        by_cases hc : (1048576 : Int32) ≤ r1
        · rw [if_pos hc] at h
          refine ev_icmp_ge_t (q := 75) dX4_choose_25 (by decide) hc ?_
          cases h
          exact ev_weak _ (mLe_none (mLe_none (mLe_none (mLe_none (mLe_none mLe_nil))))) (hexit _ hP)
        · rw [if_neg hc] at h
          refine ev_icmp_ge_f (q := 28) (t0 := 75) dX4_choose_25 (by decide) rfl hc ?_
          refine ev_aload_n (q := 29) dX4_choose_28 rfl rfl ?_
          refine ev_iload_n (q := 30) dX4_choose_29 rfl rfl ?_
          replace h := Option.bind_eq_some_iff.mp h; obtain ⟨q3, hq3, h⟩ := h
          obtain ⟨hxq3, fsq3, hkq3⟩ := kO_spec hq3
          cases hxq3
          replace h := Option.bind_eq_some_iff.mp h; obtain ⟨r2, hr2, h⟩ := h
          refine ev_invV (M1 := M_X4_firstFor) (as := [vi v2]) (fs := fsq3) (ci := 4) dX4_choose_30 rfl tw_730 cal_X4_firstFor tw_732 tw_26 (by decide) rfl rfl (Nat.le_of_ble_eq_true rfl) hkq3 rfl (met_X4_firstFor o v2 w _ hr2) ?_
          refine ev_istore (q := 35) dX4_choose_33 rfl (by decide) ?_
          refine ev_aload_n (q := 36) dX4_choose_35 rfl rfl ?_
          replace h := Option.bind_eq_some_iff.mp h; obtain ⟨r4, hr4, h⟩ := h
          refine ev_gR dX4_choose_36 fl_X4_24 hr4 rfl ?_
          refine ev_iload_n (q := 40) dX4_choose_39 rfl rfl ?_
          refine ev_iload (q := 42) dX4_choose_40 rfl rfl ?_
          replace h := Option.bind_eq_some_iff.mp h; obtain ⟨w5, hw5, h⟩ := h
          refine ev_invSN (M1 := M_X10_put) (as := [vr r4, vi v3, vi r2]) dX4_choose_42 rfl tw_711 cal_X10_put tw_293 (by decide) rfl rfl (Nat.le_of_ble_eq_true rfl) (met_X10_put r4 v3 r2 w _ hw5) ?_
          refine ev_aload_n (q := 46) dX4_choose_45 rfl rfl ?_
          refine ev_dup (q := 47) dX4_choose_46 rfl rfl ?_
          replace h := Option.bind_eq_some_iff.mp h; obtain ⟨r6, hr6, h⟩ := h
          refine ev_gI dX4_choose_47 fl_X4_54 hr6 rfl ?_
          refine ev_iconst (q := 51) (v := (1 : Int32)) dX4_choose_50 rfl (by decide) ?_
          refine ev_iadd (q := 52) dX4_choose_51 rfl ?_
          replace h := Option.bind_eq_some_iff.mp h; obtain ⟨w7, hw7, h⟩ := h
          refine ev_pI dX4_choose_52 fp_X4_54 hw7 rfl ?_
          refine ev_iload_n (q := 56) dX4_choose_55 rfl rfl ?_
          refine ev_aload_n (q := 57) dX4_choose_56 rfl rfl ?_
          replace h := Option.bind_eq_some_iff.mp h; obtain ⟨r8, hr8, h⟩ := h
          refine ev_gR dX4_choose_57 fl_X4_9 hr8 rfl ?_
          refine ev_iload (q := 62) dX4_choose_60 rfl rfl ?_
          replace h := Option.bind_eq_some_iff.mp h; obtain ⟨r9, hr9, h⟩ := h
          refine ev_invSN (M1 := M_X10_at) (as := [vr r8, vi r2]) dX4_choose_62 rfl tw_716 cal_X10_at tw_308 (by decide) rfl rfl (Nat.le_of_ble_eq_true rfl) (met_X10_at r8 r2 w7 _ hr9) ?_
          refine ev_iconst (q := 66) (v := (-1 : Int32)) dX4_choose_65 rfl (by decide) ?_
          refine ev_ixor (q := 67) dX4_choose_66 rfl ?_
          refine ev_iand (q := 68) dX4_choose_67 rfl ?_
          refine ev_istore_n (q := 69) dX4_choose_68 rfl (by decide) ?_
          refine ev_iinc (q := 72) (v := v3 + (1 : Int32)) dX4_choose_69 rfl (by decide) rfl (by rfl) ?_
          refine ev_goto (q := 9) dX4_choose_72 (by decide) ?_
          exact ev_weak _ (mLe_some (mLe_none (mLe_some (mLe_some (mLe_none mLe_nil))))) (hk (v2 &&& (r9 ^^^ (-1 : Int32))) (v3 + (1 : Int32)) w7 _ h hP)
def f_X4_choose (o : Nat) (v1 : Int32) (w : mW) : Option (mW) := Option.bind (pI w (some o) 4 5 (0 : Int32)) fun w10 => Option.bind (f_X4_choose_L9 o mFuel v1 (0 : Int32) w10) fun e11 => some (e11)
set_option maxRecDepth 100000 in
set_option maxHeartbeats 4000000 in
theorem met_X4_choose (o : Nat) (v1 : Int32) (w : mW) (res : mW) (h : f_X4_choose o v1 w = some res) : mMet M_X4_choose 2 [vr ((some o)), vi v1] w none res := by
  refine ev_met (n := 3) (by decide) rfl fun X => ?_
  unfold f_X4_choose at h
  show mEv X M_X4_choose 2 _ _ 0 [some (vr ((some o))), some (vi v1), none, none, none] [] w
  refine ev_aload_n (q := 1) dX4_choose_0 rfl rfl ?_
  refine ev_iconst (q := 2) (v := (0 : Int32)) dX4_choose_1 rfl (by decide) ?_
  replace h := Option.bind_eq_some_iff.mp h; obtain ⟨w10, hw10, h⟩ := h
  refine ev_pI dX4_choose_2 fp_X4_54 hw10 rfl ?_
  refine ev_iload_n (q := 6) dX4_choose_5 rfl rfl ?_
  refine ev_istore_n (q := 7) dX4_choose_6 rfl (by decide) ?_
  refine ev_iconst (q := 8) (v := (0 : Int32)) dX4_choose_7 rfl (by decide) ?_
  refine ev_istore_n (q := 9) dX4_choose_8 rfl (by decide) ?_
  replace h := Option.bind_eq_some_iff.mp h; obtain ⟨e11, he11, h⟩ := h
  refine ev_weak _ (mLe_some (mLe_none (mLe_some (mLe_some (mLe_none mLe_nil))))) (e_X4_choose_L9 (fun z => e11 = z) o (fun e11q hq => ?_) mFuel v1 (0 : Int32) w10 _ he11 rfl)
  subst hq
  cases h
  exact ev_vret dX4_choose_75 rfl
def f_X4_solve_J40 (kc : Int32 → mW → Option (mW)) (o : Nat) (v1 : Int32) (v2 : Int32) (s0 : Option Nat) (s1 : Int32) (s2 : Int32) (w : mW) : Option (mW) := Option.bind (f_X10_put s0 s1 s2 w) fun w1 => kc (v2 + (1 : Int32)) w1
set_option maxRecDepth 100000 in
set_option maxHeartbeats 4000000 in
theorem e_X4_solve_J40 {X : mXs} {r : Option mV} {w' : mW} (P : (mW) → Prop) (o : Nat) (v1 : Int32) (v2 : Int32) (s0 : Option Nat) (s1 : Int32) (s2 : Int32) (w : mW) (kc : Int32 → mW → Option (mW)) (hk : ∀ (u2 : Int32) (uw : mW) (e : mW), kc u2 uw = some e → P e → mEv X M_X4_solve 2 r w' 11 [some (vr ((some o))), some (vi v1), some (vi u2)] [] uw) (e : mW) (h : f_X4_solve_J40 kc o v1 v2 s0 s1 s2 w = some e) (hP : P e) : mEv X M_X4_solve 2 r w' 40 [some (vr ((some o))), some (vi v1), some (vi v2)] [vi s2, vi s1, vr s0] w := by
  unfold f_X4_solve_J40 at h
  replace h := Option.bind_eq_some_iff.mp h; obtain ⟨w1, hw1, h⟩ := h
  refine ev_invSN (M1 := M_X10_put) (as := [vr s0, vi s1, vi s2]) dX4_solve_40 rfl tw_711 cal_X10_put tw_293 (by decide) rfl rfl (Nat.le_of_ble_eq_true rfl) (met_X10_put s0 s1 s2 w _ hw1) ?_
  refine ev_iinc (q := 46) (v := v2 + (1 : Int32)) dX4_solve_43 rfl (by decide) rfl (by rfl) ?_
  refine ev_goto (q := 11) dX4_solve_46 (by decide) ?_
  exact ev_weak _ (mLe_some (mLe_some (mLe_some mLe_nil))) (hk (v2 + (1 : Int32)) w1 _ h hP)
def f_X4_solve_L11 (o : Nat) (v1 : Int32) : Nat → Int32 → mW → Option (mW)
  | 0, _, _ => none
  | n + 1, v2, w => if (64 : Int32) ≤ v2 then (some (w)) else (Option.bind (gR w (some o) 4 3) fun r2 => if v2 &&& (v1 ^^^ (-1 : Int32)) = 0 then (Option.bind (kO w (some o) 4) fun _ => Option.bind (f_X4_leastPrice o v2 w) fun r3 => f_X4_solve_J40 (f_X4_solve_L11 o v1 n) o v1 v2 r2 v2 r3 w) else (f_X4_solve_J40 (f_X4_solve_L11 o v1 n) o v1 v2 r2 v2 (1048576 : Int32) w))
set_option maxRecDepth 100000 in
set_option maxHeartbeats 4000000 in
theorem e_X4_solve_L11 {X : mXs} {r : Option mV} {w' : mW} (P : (mW) → Prop) (o : Nat) (v1 : Int32) (hexit : ∀ y, P y → mEv X M_X4_solve 2 r w' 49 [some (vr ((some o))), some (vi v1), none] [] y) : ∀ (n : Nat) (v2 : Int32) (w : mW) (e : mW), f_X4_solve_L11 o v1 n v2 w = some e → P e → mEv X M_X4_solve 2 r w' 11 [some (vr ((some o))), some (vi v1), some (vi v2)] [] w := by
  intro n
  induction n with
  | zero =>
    intro v2 w e h hP
    rw [f_X4_solve_L11] at h
    cases h
  | succ n hk =>
    intro v2 w e h hP
    rw [f_X4_solve_L11] at h
    refine ev_iload_n (q := 12) dX4_solve_11 rfl rfl ?_
    refine ev_bipush (q := 14) (v := (64 : Int32)) dX4_solve_12 rfl (by decide) ?_
    by_cases hc : (64 : Int32) ≤ v2
    · rw [if_pos hc] at h
      refine ev_icmp_ge_t (q := 49) dX4_solve_14 (by decide) hc ?_
      cases h
      exact ev_weak _ (mLe_some (mLe_some (mLe_none mLe_nil))) (hexit _ hP)
    · rw [if_neg hc] at h
      refine ev_icmp_ge_f (q := 17) (t0 := 49) dX4_solve_14 (by decide) rfl hc ?_
      refine ev_aload_n (q := 18) dX4_solve_17 rfl rfl ?_
      replace h := Option.bind_eq_some_iff.mp h; obtain ⟨r2, hr2, h⟩ := h
      refine ev_gR dX4_solve_18 fl_X4_21 hr2 rfl ?_
      refine ev_iload_n (q := 22) dX4_solve_21 rfl rfl ?_
      refine ev_iload_n (q := 23) dX4_solve_22 rfl rfl ?_
      refine ev_iload_n (q := 24) dX4_solve_23 rfl rfl ?_
      refine ev_iconst (q := 25) (v := (-1 : Int32)) dX4_solve_24 rfl (by decide) ?_
      refine ev_ixor (q := 26) dX4_solve_25 rfl ?_
      refine ev_iand (q := 27) dX4_solve_26 rfl ?_
      by_cases hc : v2 &&& (v1 ^^^ (-1 : Int32)) = 0
      · rw [if_pos hc] at h
        refine ev_if_ne_f (q := 30) (t0 := 38) dX4_solve_27 (by decide) rfl hc ?_
        refine ev_aload_n (q := 31) dX4_solve_30 rfl rfl ?_
        refine ev_iload_n (q := 32) dX4_solve_31 rfl rfl ?_
        replace h := Option.bind_eq_some_iff.mp h; obtain ⟨q4, hq4, h⟩ := h
        obtain ⟨hxq4, fsq4, hkq4⟩ := kO_spec hq4
        cases hxq4
        replace h := Option.bind_eq_some_iff.mp h; obtain ⟨r3, hr3, h⟩ := h
        refine ev_invV (M1 := M_X4_leastPrice) (as := [vi v2]) (fs := fsq4) (ci := 4) dX4_solve_32 rfl tw_722 cal_X4_leastPrice tw_724 tw_25 (by decide) rfl rfl (Nat.le_of_ble_eq_true rfl) hkq4 rfl (met_X4_leastPrice o v2 w _ hr3) ?_
        refine ev_goto (q := 40) dX4_solve_35 (by decide) ?_
        exact ev_weak _ (mLe_some (mLe_some (mLe_some mLe_nil))) (e_X4_solve_J40 P o v1 v2 r2 v2 r3 w _ hk  _ h hP)
      · rw [if_neg hc] at h
        refine ev_if_ne_t (q := 38) dX4_solve_27 (by decide) hc ?_
        refine ev_ldc (q := 40) (v := (1048576 : Int32)) dX4_solve_38 rfl tw_710 ?_
        exact ev_weak _ (mLe_some (mLe_some (mLe_some mLe_nil))) (e_X4_solve_J40 P o v1 v2 r2 v2 (1048576 : Int32) w _ hk  _ h hP)
def f_X4_solve (o : Nat) (v1 : Int32) (w : mW) : Option (mW) := Option.bind (gR w (some o) 4 3) fun r5 => Option.bind (f_X10_put r5 (0 : Int32) (0 : Int32) w) fun w6 => Option.bind (f_X4_solve_L11 o v1 mFuel (1 : Int32) w6) fun e7 => Option.bind (gR e7 (some o) 4 3) fun r8 => Option.bind (f_X10_at r8 v1 e7) fun r9 => Option.bind (pI e7 (some o) 4 6 r9) fun w10 => some (w10)
set_option maxRecDepth 100000 in
set_option maxHeartbeats 4000000 in
theorem met_X4_solve (o : Nat) (v1 : Int32) (w : mW) (res : mW) (h : f_X4_solve o v1 w = some res) : mMet M_X4_solve 2 [vr ((some o)), vi v1] w none res := by
  refine ev_met (n := 1) (by decide) rfl fun X => ?_
  unfold f_X4_solve at h
  show mEv X M_X4_solve 2 _ _ 0 [some (vr ((some o))), some (vi v1), none] [] w
  refine ev_aload_n (q := 1) dX4_solve_0 rfl rfl ?_
  replace h := Option.bind_eq_some_iff.mp h; obtain ⟨r5, hr5, h⟩ := h
  refine ev_gR dX4_solve_1 fl_X4_21 hr5 rfl ?_
  refine ev_iconst (q := 5) (v := (0 : Int32)) dX4_solve_4 rfl (by decide) ?_
  refine ev_iconst (q := 6) (v := (0 : Int32)) dX4_solve_5 rfl (by decide) ?_
  replace h := Option.bind_eq_some_iff.mp h; obtain ⟨w6, hw6, h⟩ := h
  refine ev_invSN (M1 := M_X10_put) (as := [vr r5, vi ((0 : Int32)), vi ((0 : Int32))]) dX4_solve_6 rfl tw_711 cal_X10_put tw_293 (by decide) rfl rfl (Nat.le_of_ble_eq_true rfl) (met_X10_put r5 (0 : Int32) (0 : Int32) w _ hw6) ?_
  refine ev_iconst (q := 10) (v := (1 : Int32)) dX4_solve_9 rfl (by decide) ?_
  refine ev_istore_n (q := 11) dX4_solve_10 rfl (by decide) ?_
  replace h := Option.bind_eq_some_iff.mp h; obtain ⟨e7, he7, h⟩ := h
  refine ev_weak _ (mLe_some (mLe_some (mLe_some mLe_nil))) (e_X4_solve_L11 (fun z => e7 = z) o v1 (fun e7q hq => ?_) mFuel (1 : Int32) w6 _ he7 rfl)
  subst hq
  refine ev_aload_n (q := 50) dX4_solve_49 rfl rfl ?_
  refine ev_aload_n (q := 51) dX4_solve_50 rfl rfl ?_
  replace h := Option.bind_eq_some_iff.mp h; obtain ⟨r8, hr8, h⟩ := h
  refine ev_gR dX4_solve_51 fl_X4_21 hr8 rfl ?_
  refine ev_iload_n (q := 55) dX4_solve_54 rfl rfl ?_
  replace h := Option.bind_eq_some_iff.mp h; obtain ⟨r9, hr9, h⟩ := h
  refine ev_invSN (M1 := M_X10_at) (as := [vr r8, vi v1]) dX4_solve_55 rfl tw_716 cal_X10_at tw_308 (by decide) rfl rfl (Nat.le_of_ble_eq_true rfl) (met_X10_at r8 v1 e7 _ hr9) ?_
  replace h := Option.bind_eq_some_iff.mp h; obtain ⟨w10, hw10, h⟩ := h
  refine ev_pI dX4_solve_58 fp_X4_50 hw10 rfl ?_
  cases h
  exact ev_vret dX4_solve_61 rfl
def f_X6_allows_J59 (kc : Int32 → Option ((Int32) ⊕ (Unit))) (o : Nat) (v1 : Int32) (v2 : Int32) (v3 : Int32) (w : mW) : Option ((Int32) ⊕ (Unit)) := kc (v3 + (1 : Int32))
set_option maxRecDepth 100000 in
set_option maxHeartbeats 4000000 in
theorem e_X6_allows_J59 {X : mXs} {r : Option mV} {w' : mW} (P : ((Int32) ⊕ (Unit)) → Prop) (o : Nat) (v1 : Int32) (v2 : Int32) (v3 : Int32) (w : mW) (kc : Int32 → Option ((Int32) ⊕ (Unit))) (hk : ∀ (u3 : Int32) (e : (Int32) ⊕ (Unit)), kc u3 = some e → P e → mEv X M_X6_allows 2 r w' 2 [some (vr ((some o))), some (vi v1), some (vi v2), some (vi u3), none] [] w) (e : (Int32) ⊕ (Unit)) (h : f_X6_allows_J59 kc o v1 v2 v3 w = some e) (hP : P e) : mEv X M_X6_allows 2 r w' 59 [some (vr ((some o))), some (vi v1), some (vi v2), some (vi v3), none] [] w := by
  unfold f_X6_allows_J59 at h
  refine ev_iinc (q := 62) (v := v3 + (1 : Int32)) dX6_allows_59 rfl (by decide) rfl (by rfl) ?_
  refine ev_goto (q := 2) dX6_allows_62 (by decide) ?_
  exact ev_weak _ (mLe_some (mLe_some (mLe_some (mLe_some (mLe_none mLe_nil))))) (hk (v3 + (1 : Int32)) _ h hP)
def f_X6_allows_J27 (kc : Int32 → Option ((Int32) ⊕ (Unit))) (o : Nat) (v1 : Int32) (v2 : Int32) (v3 : Int32) (s0 : Int32) (w : mW) : Option ((Int32) ⊕ (Unit)) := if s0 = 0 then (f_X6_allows_J59 kc o v1 v2 v3 w) else (Option.bind (gR w (some o) 6 1) fun r1 => Option.bind (f_X10_at r1 v3 w) fun r2 => Option.bind (f_X10_columnBy r2 v2 w) fun r3 => Option.bind (gR w (some o) 6 2) fun r4 => Option.bind (f_X10_at r4 v3 w) fun r5 => if r3 = r5 then (f_X6_allows_J59 kc o v1 v2 v3 w) else (some (.inl (0 : Int32))))
set_option maxRecDepth 100000 in
set_option maxHeartbeats 4000000 in
theorem e_X6_allows_J27 {X : mXs} {r : Option mV} {w' : mW} (P : ((Int32) ⊕ (Unit)) → Prop) (o : Nat) (v1 : Int32) (v2 : Int32) (v3 : Int32) (s0 : Int32) (w : mW) (hret : ∀ y, P (.inl y) → r = (some (vi y)) ∧ w' = w) (kc : Int32 → Option ((Int32) ⊕ (Unit))) (hk : ∀ (u3 : Int32) (e : (Int32) ⊕ (Unit)), kc u3 = some e → P e → mEv X M_X6_allows 2 r w' 2 [some (vr ((some o))), some (vi v1), some (vi v2), some (vi u3), none] [] w) (e : (Int32) ⊕ (Unit)) (h : f_X6_allows_J27 kc o v1 v2 v3 s0 w = some e) (hP : P e) : mEv X M_X6_allows 2 r w' 27 [some (vr ((some o))), some (vi v1), some (vi v2), some (vi v3), none] [vi s0] w := by
  unfold f_X6_allows_J27 at h
  refine ev_istore (q := 29) dX6_allows_27 rfl (by decide) ?_
  refine ev_iload (q := 31) dX6_allows_29 rfl rfl ?_
  by_cases hc : s0 = 0
  · rw [if_pos hc] at h
    refine ev_if_eq_t (q := 59) dX6_allows_31 (by decide) hc ?_
    exact ev_weak _ (mLe_some (mLe_some (mLe_some (mLe_some (mLe_none mLe_nil))))) (e_X6_allows_J59 P o v1 v2 v3 w _ hk  _ h hP)
  · rw [if_neg hc] at h
    refine ev_if_eq_f (q := 34) (t0 := 59) dX6_allows_31 (by decide) rfl hc ?_
    refine ev_aload_n (q := 35) dX6_allows_34 rfl rfl ?_
    replace h := Option.bind_eq_some_iff.mp h; obtain ⟨r1, hr1, h⟩ := h
    refine ev_gR dX6_allows_35 fl_X6_15 hr1 rfl ?_
    refine ev_iload_n (q := 39) dX6_allows_38 rfl rfl ?_
    replace h := Option.bind_eq_some_iff.mp h; obtain ⟨r2, hr2, h⟩ := h
    refine ev_invSN (M1 := M_X10_at) (as := [vr r1, vi v3]) dX6_allows_39 rfl tw_620 cal_X10_at tw_308 (by decide) rfl rfl (Nat.le_of_ble_eq_true rfl) (met_X10_at r1 v3 w _ hr2) ?_
    refine ev_iload_n (q := 43) dX6_allows_42 rfl rfl ?_
    replace h := Option.bind_eq_some_iff.mp h; obtain ⟨r3, hr3, h⟩ := h
    refine ev_invSN (M1 := M_X10_columnBy) (as := [vi r2, vi v2]) dX6_allows_43 rfl tw_621 cal_X10_columnBy tw_622 (by decide) rfl rfl (Nat.le_of_ble_eq_true rfl) (met_X10_columnBy r2 v2 w _ hr3) ?_
    refine ev_aload_n (q := 47) dX6_allows_46 rfl rfl ?_
    replace h := Option.bind_eq_some_iff.mp h; obtain ⟨r4, hr4, h⟩ := h
    refine ev_gR dX6_allows_47 fl_X6_18 hr4 rfl ?_
    refine ev_iload_n (q := 51) dX6_allows_50 rfl rfl ?_
    replace h := Option.bind_eq_some_iff.mp h; obtain ⟨r5, hr5, h⟩ := h
    refine ev_invSN (M1 := M_X10_at) (as := [vr r4, vi v3]) dX6_allows_51 rfl tw_620 cal_X10_at tw_308 (by decide) rfl rfl (Nat.le_of_ble_eq_true rfl) (met_X10_at r4 v3 w _ hr5) ?_
    by_cases hc : r3 = r5
    · rw [if_pos hc] at h
      refine ev_icmp_eq_t (q := 59) dX6_allows_54 (by decide) hc ?_
      exact ev_weak _ (mLe_some (mLe_some (mLe_some (mLe_some (mLe_none mLe_nil))))) (e_X6_allows_J59 P o v1 v2 v3 w _ hk  _ h hP)
    · rw [if_neg hc] at h
      refine ev_icmp_eq_f (q := 57) (t0 := 59) dX6_allows_54 (by decide) rfl hc ?_
      refine ev_iconst (q := 58) (v := (0 : Int32)) dX6_allows_57 rfl (by decide) ?_
      cases h
      obtain ⟨hr1, hr2⟩ := hret _ hP
      subst hr1
      subst hr2
      exact ev_zret dX6_allows_58 rfl (Or.inl rfl)
def f_X6_allows_L2 (o : Nat) (v1 : Int32) (v2 : Int32) (w : mW) : Nat → Int32 → Option ((Int32) ⊕ (Unit))
  | 0, _ => none
  | n + 1, v3 => Option.bind (gI w (some o) 6 3) fun r6 => if r6 ≤ v3 then (some (.inr ())) else (Option.bind (gR w (some o) 6 0) fun r7 => Option.bind (f_X10_at r7 v3 w) fun r8 => if r8 = v1 then (f_X6_allows_J27 (f_X6_allows_L2 o v1 v2 w n) o v1 v2 v3 (1 : Int32) w) else (f_X6_allows_J27 (f_X6_allows_L2 o v1 v2 w n) o v1 v2 v3 (0 : Int32) w))
set_option maxRecDepth 100000 in
set_option maxHeartbeats 4000000 in
theorem e_X6_allows_L2 {X : mXs} {r : Option mV} {w' : mW} (P : ((Int32) ⊕ (Unit)) → Prop) (o : Nat) (v1 : Int32) (v2 : Int32) (w : mW) (hret : ∀ y, P (.inl y) → r = (some (vi y)) ∧ w' = w) (hexit : ∀ y, P (.inr y) → mEv X M_X6_allows 2 r w' 65 [none, none, none, none, none] [] w) : ∀ (n : Nat) (v3 : Int32) (e : (Int32) ⊕ (Unit)), f_X6_allows_L2 o v1 v2 w n v3 = some e → P e → mEv X M_X6_allows 2 r w' 2 [some (vr ((some o))), some (vi v1), some (vi v2), some (vi v3), none] [] w := by
  intro n
  induction n with
  | zero =>
    intro v3 e h hP
    rw [f_X6_allows_L2] at h
    cases h
  | succ n hk =>
    intro v3 e h hP
    rw [f_X6_allows_L2] at h
    refine ev_iload_n (q := 3) dX6_allows_2 rfl rfl ?_
    refine ev_aload_n (q := 4) dX6_allows_3 rfl rfl ?_
    replace h := Option.bind_eq_some_iff.mp h; obtain ⟨r6, hr6, h⟩ := h
    refine ev_gI dX6_allows_4 fl_X6_21 hr6 rfl ?_
    by_cases hc : r6 ≤ v3
    · rw [if_pos hc] at h
      refine ev_icmp_ge_t (q := 65) dX6_allows_7 (by decide) hc ?_
      cases h
      exact ev_weak _ (mLe_none (mLe_none (mLe_none (mLe_none (mLe_none mLe_nil))))) (hexit _ hP)
    · rw [if_neg hc] at h
      refine ev_icmp_ge_f (q := 10) (t0 := 65) dX6_allows_7 (by decide) rfl hc ?_
      refine ev_aload_n (q := 11) dX6_allows_10 rfl rfl ?_
      replace h := Option.bind_eq_some_iff.mp h; obtain ⟨r7, hr7, h⟩ := h
      refine ev_gR dX6_allows_11 fl_X6_9 hr7 rfl ?_
      refine ev_iload_n (q := 15) dX6_allows_14 rfl rfl ?_
      replace h := Option.bind_eq_some_iff.mp h; obtain ⟨r8, hr8, h⟩ := h
      refine ev_invSN (M1 := M_X10_at) (as := [vr r7, vi v3]) dX6_allows_15 rfl tw_620 cal_X10_at tw_308 (by decide) rfl rfl (Nat.le_of_ble_eq_true rfl) (met_X10_at r7 v3 w _ hr8) ?_
      refine ev_iload_n (q := 19) dX6_allows_18 rfl rfl ?_
      by_cases hc : r8 = v1
      · rw [if_pos hc] at h
        refine ev_icmp_ne_f (q := 22) (t0 := 26) dX6_allows_19 (by decide) rfl hc ?_
        refine ev_iconst (q := 23) (v := (1 : Int32)) dX6_allows_22 rfl (by decide) ?_
        refine ev_goto (q := 27) dX6_allows_23 (by decide) ?_
        exact ev_weak _ (mLe_some (mLe_some (mLe_some (mLe_some (mLe_none mLe_nil))))) (e_X6_allows_J27 P o v1 v2 v3 (1 : Int32) w hret _ hk  _ h hP)
      · rw [if_neg hc] at h
        refine ev_icmp_ne_t (q := 26) dX6_allows_19 (by decide) hc ?_
        refine ev_iconst (q := 27) (v := (0 : Int32)) dX6_allows_26 rfl (by decide) ?_
        exact ev_weak _ (mLe_some (mLe_some (mLe_some (mLe_some (mLe_none mLe_nil))))) (e_X6_allows_J27 P o v1 v2 v3 (0 : Int32) w hret _ hk  _ h hP)
def f_X6_allows (o : Nat) (v1 : Int32) (v2 : Int32) (w : mW) : Option (Int32) := Option.bind (f_X6_allows_L2 o v1 v2 w mFuel (0 : Int32)) fun e9 => match e9 with | .inl y11 => some y11 | .inr y10 => some ((1 : Int32))
set_option maxRecDepth 100000 in
set_option maxHeartbeats 4000000 in
theorem met_X6_allows (o : Nat) (v1 : Int32) (v2 : Int32) (w : mW) (res : Int32) (h : f_X6_allows o v1 v2 w = some res) : mMet M_X6_allows 2 [vr ((some o)), vi v1, vi v2] w (some (vi res)) w := by
  refine ev_met (n := 2) (by decide) rfl fun X => ?_
  unfold f_X6_allows at h
  show mEv X M_X6_allows 2 _ _ 0 [some (vr ((some o))), some (vi v1), some (vi v2), none, none] [] w
  refine ev_iconst (q := 1) (v := (0 : Int32)) dX6_allows_0 rfl (by decide) ?_
  refine ev_istore_n (q := 2) dX6_allows_1 rfl (by decide) ?_
  replace h := Option.bind_eq_some_iff.mp h; obtain ⟨e9, he9, h⟩ := h
  refine ev_weak _ (mLe_some (mLe_some (mLe_some (mLe_some (mLe_none mLe_nil))))) (e_X6_allows_L2 (fun z => e9 = z) o v1 v2 w (fun y11 hq => ?_) (fun y10 hq => ?_) mFuel (0 : Int32) _ he9 rfl)
  · subst hq
    dsimp only at h
    cases h
    exact ⟨rfl, rfl⟩
  · subst hq
    dsimp only at h
    refine ev_iconst (q := 66) (v := (1 : Int32)) dX6_allows_65 rfl (by decide) ?_
    cases h
    exact ev_zret dX6_allows_66 rfl (Or.inr rfl)
def f_X6_takeFrom (o : Nat) (v1 : Option Nat) (w : mW) : Option (mW) := oC v1 (some (w)) (fun a1 => Option.bind (gR w (some a1) 6 0) fun r2 => Option.bind (gR w (some o) 6 0) fun r3 => Option.bind (f_X10_copy r2 r3 w) fun w4 => Option.bind (gR w4 (some a1) 6 1) fun r5 => Option.bind (gR w4 (some o) 6 1) fun r6 => Option.bind (f_X10_copy r5 r6 w4) fun w7 => Option.bind (gR w7 (some a1) 6 2) fun r8 => Option.bind (gR w7 (some o) 6 2) fun r9 => Option.bind (f_X10_copy r8 r9 w7) fun w10 => Option.bind (gI w10 (some a1) 6 3) fun r11 => Option.bind (pI w10 (some o) 6 3 r11) fun w12 => some (w12))
set_option maxRecDepth 100000 in
set_option maxHeartbeats 4000000 in
theorem met_X6_takeFrom (o : Nat) (v1 : Option Nat) (w : mW) (res : mW) (h : f_X6_takeFrom o v1 w = some res) : mMet M_X6_takeFrom 2 [vr ((some o)), vr v1] w none res := by
  refine ev_met (n := 0) (by decide) rfl fun X => ?_
  unfold f_X6_takeFrom at h
  show mEv X M_X6_takeFrom 2 _ _ 0 [some (vr ((some o))), some (vr v1)] [] w
  refine ev_aload_n (q := 1) dX6_takeFrom_0 rfl rfl ?_
  rcases v1 with _ | a1
  · dsimp only [oC] at h
    refine ev_ifnonnull_f (q := 4) dX6_takeFrom_1 rfl ?_
    cases h
    exact ev_vret dX6_takeFrom_4 rfl
  · dsimp only [oC] at h
    refine ev_ifnonnull_t (q := 5) dX6_takeFrom_1 (by decide) ?_
    refine ev_aload_n (q := 6) dX6_takeFrom_5 rfl rfl ?_
    replace h := Option.bind_eq_some_iff.mp h; obtain ⟨r2, hr2, h⟩ := h
    refine ev_gR dX6_takeFrom_6 fl_X6_9 hr2 rfl ?_
    refine ev_aload_n (q := 10) dX6_takeFrom_9 rfl rfl ?_
    replace h := Option.bind_eq_some_iff.mp h; obtain ⟨r3, hr3, h⟩ := h
    refine ev_gR dX6_takeFrom_10 fl_X6_9 hr3 rfl ?_
    replace h := Option.bind_eq_some_iff.mp h; obtain ⟨w4, hw4, h⟩ := h
    refine ev_invSN (M1 := M_X10_copy) (as := [vr r2, vr r3]) dX6_takeFrom_13 rfl tw_793 cal_X10_copy tw_454 (by decide) rfl rfl (Nat.le_of_ble_eq_true rfl) (met_X10_copy r2 r3 w _ hw4) ?_
    refine ev_aload_n (q := 17) dX6_takeFrom_16 rfl rfl ?_
    replace h := Option.bind_eq_some_iff.mp h; obtain ⟨r5, hr5, h⟩ := h
    refine ev_gR dX6_takeFrom_17 fl_X6_15 hr5 rfl ?_
    refine ev_aload_n (q := 21) dX6_takeFrom_20 rfl rfl ?_
    replace h := Option.bind_eq_some_iff.mp h; obtain ⟨r6, hr6, h⟩ := h
    refine ev_gR dX6_takeFrom_21 fl_X6_15 hr6 rfl ?_
    replace h := Option.bind_eq_some_iff.mp h; obtain ⟨w7, hw7, h⟩ := h
    refine ev_invSN (M1 := M_X10_copy) (as := [vr r5, vr r6]) dX6_takeFrom_24 rfl tw_793 cal_X10_copy tw_454 (by decide) rfl rfl (Nat.le_of_ble_eq_true rfl) (met_X10_copy r5 r6 w4 _ hw7) ?_
    refine ev_aload_n (q := 28) dX6_takeFrom_27 rfl rfl ?_
    replace h := Option.bind_eq_some_iff.mp h; obtain ⟨r8, hr8, h⟩ := h
    refine ev_gR dX6_takeFrom_28 fl_X6_18 hr8 rfl ?_
    refine ev_aload_n (q := 32) dX6_takeFrom_31 rfl rfl ?_
    replace h := Option.bind_eq_some_iff.mp h; obtain ⟨r9, hr9, h⟩ := h
    refine ev_gR dX6_takeFrom_32 fl_X6_18 hr9 rfl ?_
    replace h := Option.bind_eq_some_iff.mp h; obtain ⟨w10, hw10, h⟩ := h
    refine ev_invSN (M1 := M_X10_copy) (as := [vr r8, vr r9]) dX6_takeFrom_35 rfl tw_793 cal_X10_copy tw_454 (by decide) rfl rfl (Nat.le_of_ble_eq_true rfl) (met_X10_copy r8 r9 w7 _ hw10) ?_
    refine ev_aload_n (q := 39) dX6_takeFrom_38 rfl rfl ?_
    refine ev_aload_n (q := 40) dX6_takeFrom_39 rfl rfl ?_
    replace h := Option.bind_eq_some_iff.mp h; obtain ⟨r11, hr11, h⟩ := h
    refine ev_gI dX6_takeFrom_40 fl_X6_21 hr11 rfl ?_
    replace h := Option.bind_eq_some_iff.mp h; obtain ⟨w12, hw12, h⟩ := h
    refine ev_pI dX6_takeFrom_43 fp_X6_21 hw12 rfl ?_
    cases h
    exact ev_vret dX6_takeFrom_46 rfl
