def f_X10_lands (o : Nat) (v1 : Int32) (v2 : Int32) (w : mW) : Option (Int32) := Option.bind (kO w (some o) 10) fun _ => Option.bind (f_X10_isToss o v1 v2 w) fun r1 => if r1 = 0 then (some ((-101 : Int32))) else (Option.bind (gR w (some o) 10 3) fun r3 => Option.bind (gI w r3 2 8) fun r4 => Option.bind (kO w (some o) 10) fun _ => Option.bind (f_X10_landing o v1 v2 r4 w) fun r5 => some (r5))
set_option maxRecDepth 100000 in
set_option maxHeartbeats 4000000 in
theorem met_X10_lands (o : Nat) (v1 : Int32) (v2 : Int32) (w : mW) (res : Int32) (h : f_X10_lands o v1 v2 w = some res) : mMet M_X10_lands 3 [vr ((some o)), vi v1, vi v2] w (some (vi res)) w := by
  refine ev_met (n := 0) (by decide) rfl fun X => ?_
  unfold f_X10_lands at h
  show mEv X M_X10_lands 3 _ _ 0 [some (vr ((some o))), some (vi v1), some (vi v2)] [] w
  refine ev_aload_n (q := 1) dX10_lands_0 rfl rfl ?_
  refine ev_iload_n (q := 2) dX10_lands_1 rfl rfl ?_
  refine ev_iload_n (q := 3) dX10_lands_2 rfl rfl ?_
  replace h := Option.bind_eq_some_iff.mp h; obtain ⟨q2, hq2, h⟩ := h
  obtain ⟨hxq2, fsq2, hkq2⟩ := kO_spec hq2
  cases hxq2
  replace h := Option.bind_eq_some_iff.mp h; obtain ⟨r1, hr1, h⟩ := h
  refine ev_invV (M1 := M_X10_isToss) (as := [vi v1, vi v2]) (fs := fsq2) (ci := 10) dX10_lands_3 rfl tw_592 cal_X10_isToss tw_594 tw_20 (by decide) rfl rfl (Nat.le_of_ble_eq_true rfl) hkq2 rfl (met_X10_isToss o v1 v2 w _ hr1) ?_
  by_cases hc : r1 = 0
  · rw [if_pos hc] at h
    refine ev_if_ne_f (q := 9) (t0 := 12) dX10_lands_6 (by decide) rfl hc ?_
    refine ev_bipush (q := 11) (v := (-101 : Int32)) dX10_lands_9 rfl (by decide) ?_
    cases h
    exact ev_iret dX10_lands_11 rfl rfl
  · rw [if_neg hc] at h
    refine ev_if_ne_t (q := 12) dX10_lands_6 (by decide) hc ?_
    refine ev_aload_n (q := 13) dX10_lands_12 rfl rfl ?_
    refine ev_iload_n (q := 14) dX10_lands_13 rfl rfl ?_
    refine ev_iload_n (q := 15) dX10_lands_14 rfl rfl ?_
    refine ev_aload_n (q := 16) dX10_lands_15 rfl rfl ?_
    replace h := Option.bind_eq_some_iff.mp h; obtain ⟨r3, hr3, h⟩ := h
    refine ev_gR dX10_lands_16 fl_X10_32 hr3 rfl ?_
    replace h := Option.bind_eq_some_iff.mp h; obtain ⟨r4, hr4, h⟩ := h
    refine ev_gI dX10_lands_19 fl_X10_146 hr4 rfl ?_
    replace h := Option.bind_eq_some_iff.mp h; obtain ⟨q6, hq6, h⟩ := h
    obtain ⟨hxq6, fsq6, hkq6⟩ := kO_spec hq6
    cases hxq6
    replace h := Option.bind_eq_some_iff.mp h; obtain ⟨r5, hr5, h⟩ := h
    refine ev_invV (M1 := M_X10_landing) (as := [vi v1, vi v2, vi r4]) (fs := fsq6) (ci := 10) dX10_lands_22 rfl tw_465 cal_X10_landing tw_467 tw_13 (by decide) rfl rfl (Nat.le_of_ble_eq_true rfl) hkq6 rfl (met_X10_landing o v1 v2 r4 w _ hr5) ?_
    cases h
    exact ev_iret dX10_lands_25 rfl rfl
def f_X10_tellingAim_J40 (kc : Int32 → Int32 → Int32 → Option (Int32)) (v0 : Int32) (v1 : Int32) (v2 : Int32) (v3 : Int32) (w : mW) : Option (Int32) := kc v1 v2 (v3 + (1 : Int32))
set_option maxRecDepth 100000 in
set_option maxHeartbeats 4000000 in
theorem e_X10_tellingAim_J40 {X : mXs} {r : Option mV} {w' : mW} (P : (Int32) → Prop) (v0 : Int32) (v1 : Int32) (v2 : Int32) (v3 : Int32) (w : mW) (kc : Int32 → Int32 → Int32 → Option (Int32)) (hk : ∀ (u1 : Int32) (u2 : Int32) (u3 : Int32) (e : Int32), kc u1 u2 u3 = some e → P e → mEv X M_X10_tellingAim 3 r w' 16 [some (vi v0), some (vi u1), some (vi u2), some (vi u3), none] [] w) (e : Int32) (h : f_X10_tellingAim_J40 kc v0 v1 v2 v3 w = some e) (hP : P e) : mEv X M_X10_tellingAim 3 r w' 40 [some (vi v0), some (vi v1), some (vi v2), some (vi v3), none] [] w := by
  unfold f_X10_tellingAim_J40 at h
  refine ev_iinc (q := 43) (v := v3 + (1 : Int32)) dX10_tellingAim_40 rfl (by decide) rfl (by rfl) ?_
  refine ev_goto (q := 16) dX10_tellingAim_43 (by decide) ?_
  exact ev_weak _ (mLe_some (mLe_some (mLe_some (mLe_some (mLe_none mLe_nil))))) (hk v1 v2 (v3 + (1 : Int32)) _ h hP)
def f_X10_tellingAim_L16 (v0 : Int32) (w : mW) : Nat → Int32 → Int32 → Int32 → Option (Int32)
  | 0, _, _, _ => none
  | n + 1, v1, v2, v3 => if (6 : Int32) ≤ v3 then (some (v1)) else (Option.bind (f_X10_mostLeft v0 v3 w) fun r1 => if v2 ≤ r1 then (f_X10_tellingAim_J40 (f_X10_tellingAim_L16 v0 w n) v0 v1 v2 v3 w) else (f_X10_tellingAim_J40 (f_X10_tellingAim_L16 v0 w n) v0 v3 r1 v3 w))
set_option maxRecDepth 100000 in
set_option maxHeartbeats 4000000 in
theorem e_X10_tellingAim_L16 {X : mXs} {r : Option mV} {w' : mW} (P : (Int32) → Prop) (v0 : Int32) (w : mW) (hexit : ∀ y, P y → mEv X M_X10_tellingAim 3 r w' 46 [none, some (vi y), none, none, none] [] w) : ∀ (n : Nat) (v1 : Int32) (v2 : Int32) (v3 : Int32) (e : Int32), f_X10_tellingAim_L16 v0 w n v1 v2 v3 = some e → P e → mEv X M_X10_tellingAim 3 r w' 16 [some (vi v0), some (vi v1), some (vi v2), some (vi v3), none] [] w := by
  intro n
  induction n with
  | zero =>
    intro v1 v2 v3 e h hP
    rw [f_X10_tellingAim_L16] at h
    cases h
  | succ n hk =>
    intro v1 v2 v3 e h hP
    rw [f_X10_tellingAim_L16] at h
    refine ev_iload_n (q := 17) dX10_tellingAim_16 rfl rfl ?_
    refine ev_bipush (q := 19) (v := (6 : Int32)) dX10_tellingAim_17 rfl (by decide) ?_
    by_cases hc : (6 : Int32) ≤ v3
    · rw [if_pos hc] at h
      refine ev_icmp_ge_t (q := 46) dX10_tellingAim_19 (by decide) hc ?_
      cases h
      exact ev_weak _ (mLe_none (mLe_some (mLe_none (mLe_none (mLe_none mLe_nil))))) (hexit _ hP)
    · rw [if_neg hc] at h
      refine ev_icmp_ge_f (q := 22) (t0 := 46) dX10_tellingAim_19 (by decide) rfl hc ?_
      refine ev_iload_n (q := 23) dX10_tellingAim_22 rfl rfl ?_
      refine ev_iload_n (q := 24) dX10_tellingAim_23 rfl rfl ?_
      replace h := Option.bind_eq_some_iff.mp h; obtain ⟨r1, hr1, h⟩ := h
      refine ev_invS (M1 := M_X10_mostLeft) (as := [vi v0, vi v3]) dX10_tellingAim_24 rfl tw_576 cal_X10_mostLeft tw_577 (by decide) rfl rfl (Nat.le_of_ble_eq_true rfl) (met_X10_mostLeft v0 v3 w _ hr1) ?_
      refine ev_istore (q := 29) dX10_tellingAim_27 rfl (by decide) ?_
      refine ev_iload (q := 31) dX10_tellingAim_29 rfl rfl ?_
      refine ev_iload_n (q := 32) dX10_tellingAim_31 rfl rfl ?_
      by_cases hc : v2 ≤ r1
      · rw [if_pos hc] at h
        refine ev_icmp_ge_t (q := 40) dX10_tellingAim_32 (by decide) hc ?_
        exact ev_weak _ (mLe_some (mLe_some (mLe_some (mLe_some (mLe_none mLe_nil))))) (e_X10_tellingAim_J40 P v0 v1 v2 v3 w _ hk  _ h hP)
      · rw [if_neg hc] at h
        refine ev_icmp_ge_f (q := 35) (t0 := 40) dX10_tellingAim_32 (by decide) rfl hc ?_
        refine ev_iload (q := 37) dX10_tellingAim_35 rfl rfl ?_
        refine ev_istore_n (q := 38) dX10_tellingAim_37 rfl (by decide) ?_
        refine ev_iload_n (q := 39) dX10_tellingAim_38 rfl rfl ?_
        refine ev_istore_n (q := 40) dX10_tellingAim_39 rfl (by decide) ?_
        exact ev_weak _ (mLe_some (mLe_some (mLe_some (mLe_some (mLe_none mLe_nil))))) (e_X10_tellingAim_J40 P v0 v3 r1 v3 w _ hk  _ h hP)
def f_X10_tellingAim (v0 : Int32) (w : mW) : Option (Int32) := if v0 = 0 then (some ((-1 : Int32))) else (Option.bind (f_X10_mostLeft v0 (0 : Int32) w) fun r2 => Option.bind (f_X10_tellingAim_L16 v0 w mFuel (0 : Int32) r2 (1 : Int32)) fun e3 => some (e3))
set_option maxRecDepth 100000 in
set_option maxHeartbeats 4000000 in
theorem met_X10_tellingAim (v0 : Int32) (w : mW) (res : Int32) (h : f_X10_tellingAim v0 w = some res) : mMet M_X10_tellingAim 3 [vi v0] w (some (vi res)) w := by
  refine ev_met (n := 4) (by decide) rfl fun X => ?_
  unfold f_X10_tellingAim at h
  show mEv X M_X10_tellingAim 3 _ _ 0 [some (vi v0), none, none, none, none] [] w
  refine ev_iload_n (q := 1) dX10_tellingAim_0 rfl rfl ?_
  by_cases hc : v0 = 0
  · rw [if_pos hc] at h
    refine ev_if_ne_f (q := 4) (t0 := 6) dX10_tellingAim_1 (by decide) rfl hc ?_
    refine ev_iconst (q := 5) (v := (-1 : Int32)) dX10_tellingAim_4 rfl (by decide) ?_
    cases h
    exact ev_iret dX10_tellingAim_5 rfl rfl
  · rw [if_neg hc] at h
    refine ev_if_ne_t (q := 6) dX10_tellingAim_1 (by decide) hc ?_
    refine ev_iconst (q := 7) (v := (0 : Int32)) dX10_tellingAim_6 rfl (by decide) ?_
    refine ev_istore_n (q := 8) dX10_tellingAim_7 rfl (by decide) ?_
    refine ev_iload_n (q := 9) dX10_tellingAim_8 rfl rfl ?_
    refine ev_iconst (q := 10) (v := (0 : Int32)) dX10_tellingAim_9 rfl (by decide) ?_
    replace h := Option.bind_eq_some_iff.mp h; obtain ⟨r2, hr2, h⟩ := h
    refine ev_invS (M1 := M_X10_mostLeft) (as := [vi v0, vi ((0 : Int32))]) dX10_tellingAim_10 rfl tw_576 cal_X10_mostLeft tw_577 (by decide) rfl rfl (Nat.le_of_ble_eq_true rfl) (met_X10_mostLeft v0 (0 : Int32) w _ hr2) ?_
    refine ev_istore_n (q := 14) dX10_tellingAim_13 rfl (by decide) ?_
    refine ev_iconst (q := 15) (v := (1 : Int32)) dX10_tellingAim_14 rfl (by decide) ?_
    refine ev_istore_n (q := 16) dX10_tellingAim_15 rfl (by decide) ?_
    replace h := Option.bind_eq_some_iff.mp h; obtain ⟨e3, he3, h⟩ := h
    refine ev_weak _ (mLe_some (mLe_some (mLe_some (mLe_some (mLe_none mLe_nil))))) (e_X10_tellingAim_L16 (fun z => e3 = z) v0 w (fun e3q hq => ?_) mFuel (0 : Int32) r2 (1 : Int32) _ he3 rfl)
    subst hq
    refine ev_iload_n (q := 47) dX10_tellingAim_46 rfl rfl ?_
    cases h
    exact ev_iret dX10_tellingAim_47 rfl rfl
def f_X10_who_J38 (kc : Int32 → Int32 → Option (Int32)) (o : Nat) (v1 : Int32) (v2 : Int32) (v3 : Int32) (w : mW) : Option (Int32) := kc v2 (v3 + (1 : Int32))
set_option maxRecDepth 100000 in
set_option maxHeartbeats 4000000 in
theorem e_X10_who_J38 {X : mXs} {r : Option mV} {w' : mW} (P : (Int32) → Prop) (o : Nat) (v1 : Int32) (v2 : Int32) (v3 : Int32) (w : mW) (kc : Int32 → Int32 → Option (Int32)) (hk : ∀ (u2 : Int32) (u3 : Int32) (e : Int32), kc u2 u3 = some e → P e → mEv X M_X10_who 3 r w' 15 [some (vr ((some o))), some (vi v1), some (vi u2), some (vi u3)] [] w) (e : Int32) (h : f_X10_who_J38 kc o v1 v2 v3 w = some e) (hP : P e) : mEv X M_X10_who 3 r w' 38 [some (vr ((some o))), some (vi v1), some (vi v2), some (vi v3)] [] w := by
  unfold f_X10_who_J38 at h
  refine ev_iinc (q := 41) (v := v3 + (1 : Int32)) dX10_who_38 rfl (by decide) rfl (by rfl) ?_
  refine ev_goto (q := 15) dX10_who_41 (by decide) ?_
  exact ev_weak _ (mLe_some (mLe_some (mLe_some (mLe_some mLe_nil)))) (hk v2 (v3 + (1 : Int32)) _ h hP)
def f_X10_who_L15 (o : Nat) (v1 : Int32) (w : mW) : Nat → Int32 → Int32 → Option (Int32)
  | 0, _, _ => none
  | n + 1, v2, v3 => Option.bind (gI w (some o) 10 8) fun r1 => if r1 ≤ v3 then (some (v2)) else (Option.bind (kO w (some o) 10) fun _ => Option.bind (f_X10_canLandAt o v3 v1 w) fun r2 => if r2 = 0 then (f_X10_who_J38 (f_X10_who_L15 o v1 w n) o v1 v2 v3 w) else (f_X10_who_J38 (f_X10_who_L15 o v1 w n) o v1 (v2 ||| ((1 : Int32) <<< (v3 &&& 31))) v3 w))
set_option maxRecDepth 100000 in
set_option maxHeartbeats 4000000 in
theorem e_X10_who_L15 {X : mXs} {r : Option mV} {w' : mW} (P : (Int32) → Prop) (o : Nat) (v1 : Int32) (w : mW) (hexit : ∀ y, P y → mEv X M_X10_who 3 r w' 44 [none, none, some (vi y), none] [] w) : ∀ (n : Nat) (v2 : Int32) (v3 : Int32) (e : Int32), f_X10_who_L15 o v1 w n v2 v3 = some e → P e → mEv X M_X10_who 3 r w' 15 [some (vr ((some o))), some (vi v1), some (vi v2), some (vi v3)] [] w := by
  intro n
  induction n with
  | zero =>
    intro v2 v3 e h hP
    rw [f_X10_who_L15] at h
    cases h
  | succ n hk =>
    intro v2 v3 e h hP
    rw [f_X10_who_L15] at h
    refine ev_iload_n (q := 16) dX10_who_15 rfl rfl ?_
    refine ev_aload_n (q := 17) dX10_who_16 rfl rfl ?_
    replace h := Option.bind_eq_some_iff.mp h; obtain ⟨r1, hr1, h⟩ := h
    refine ev_gI dX10_who_17 fl_X10_197 hr1 rfl ?_
    by_cases hc : r1 ≤ v3
    · rw [if_pos hc] at h
      refine ev_icmp_ge_t (q := 44) dX10_who_20 (by decide) hc ?_
      cases h
      exact ev_weak _ (mLe_none (mLe_none (mLe_some (mLe_none mLe_nil)))) (hexit _ hP)
    · rw [if_neg hc] at h
      refine ev_icmp_ge_f (q := 23) (t0 := 44) dX10_who_20 (by decide) rfl hc ?_
      refine ev_aload_n (q := 24) dX10_who_23 rfl rfl ?_
      refine ev_iload_n (q := 25) dX10_who_24 rfl rfl ?_
      refine ev_iload_n (q := 26) dX10_who_25 rfl rfl ?_
      replace h := Option.bind_eq_some_iff.mp h; obtain ⟨q3, hq3, h⟩ := h
      obtain ⟨hxq3, fsq3, hkq3⟩ := kO_spec hq3
      cases hxq3
      replace h := Option.bind_eq_some_iff.mp h; obtain ⟨r2, hr2, h⟩ := h
      refine ev_invV (M1 := M_X10_canLandAt) (as := [vi v3, vi v1]) (fs := fsq3) (ci := 10) dX10_who_26 rfl tw_637 cal_X10_canLandAt tw_639 tw_23 (by decide) rfl rfl (Nat.le_of_ble_eq_true rfl) hkq3 rfl (met_X10_canLandAt o v3 v1 w _ hr2) ?_
      by_cases hc : r2 = 0
      · rw [if_pos hc] at h
        refine ev_if_eq_t (q := 38) dX10_who_29 (by decide) hc ?_
        exact ev_weak _ (mLe_some (mLe_some (mLe_some (mLe_some mLe_nil)))) (e_X10_who_J38 P o v1 v2 v3 w _ hk  _ h hP)
      · rw [if_neg hc] at h
        refine ev_if_eq_f (q := 32) (t0 := 38) dX10_who_29 (by decide) rfl hc ?_
        refine ev_iload_n (q := 33) dX10_who_32 rfl rfl ?_
        refine ev_iconst (q := 34) (v := (1 : Int32)) dX10_who_33 rfl (by decide) ?_
        refine ev_iload_n (q := 35) dX10_who_34 rfl rfl ?_
        refine ev_ishl (q := 36) dX10_who_35 rfl ?_
        refine ev_ior (q := 37) dX10_who_36 rfl ?_
        refine ev_istore_n (q := 38) dX10_who_37 rfl (by decide) ?_
        exact ev_weak _ (mLe_some (mLe_some (mLe_some (mLe_some mLe_nil)))) (e_X10_who_J38 P o v1 (v2 ||| ((1 : Int32) <<< (v3 &&& 31))) v3 w _ hk  _ h hP)
def f_X10_who (o : Nat) (v1 : Int32) (w : mW) : Option (Int32) := Option.bind (kO w (some o) 10) fun _ => Option.bind (f_X10_isCell o v1 w) fun r4 => if r4 = 0 then (some ((-101 : Int32))) else (Option.bind (f_X10_who_L15 o v1 w mFuel (0 : Int32) (0 : Int32)) fun e6 => some (e6))
set_option maxRecDepth 100000 in
set_option maxHeartbeats 4000000 in
theorem met_X10_who (o : Nat) (v1 : Int32) (w : mW) (res : Int32) (h : f_X10_who o v1 w = some res) : mMet M_X10_who 3 [vr ((some o)), vi v1] w (some (vi res)) w := by
  refine ev_met (n := 2) (by decide) rfl fun X => ?_
  unfold f_X10_who at h
  show mEv X M_X10_who 3 _ _ 0 [some (vr ((some o))), some (vi v1), none, none] [] w
  refine ev_aload_n (q := 1) dX10_who_0 rfl rfl ?_
  refine ev_iload_n (q := 2) dX10_who_1 rfl rfl ?_
  replace h := Option.bind_eq_some_iff.mp h; obtain ⟨q5, hq5, h⟩ := h
  obtain ⟨hxq5, fsq5, hkq5⟩ := kO_spec hq5
  cases hxq5
  replace h := Option.bind_eq_some_iff.mp h; obtain ⟨r4, hr4, h⟩ := h
  refine ev_invV (M1 := M_X10_isCell) (as := [vi v1]) (fs := fsq5) (ci := 10) dX10_who_2 rfl tw_596 cal_X10_isCell tw_598 tw_21 (by decide) rfl rfl (Nat.le_of_ble_eq_true rfl) hkq5 rfl (met_X10_isCell o v1 w _ hr4) ?_
  by_cases hc : r4 = 0
  · rw [if_pos hc] at h
    refine ev_if_ne_f (q := 8) (t0 := 11) dX10_who_5 (by decide) rfl hc ?_
    refine ev_bipush (q := 10) (v := (-101 : Int32)) dX10_who_8 rfl (by decide) ?_
    cases h
    exact ev_iret dX10_who_10 rfl rfl
  · rw [if_neg hc] at h
    refine ev_if_ne_t (q := 11) dX10_who_5 (by decide) hc ?_
    refine ev_iconst (q := 12) (v := (0 : Int32)) dX10_who_11 rfl (by decide) ?_
    refine ev_istore_n (q := 13) dX10_who_12 rfl (by decide) ?_
    refine ev_iconst (q := 14) (v := (0 : Int32)) dX10_who_13 rfl (by decide) ?_
    refine ev_istore_n (q := 15) dX10_who_14 rfl (by decide) ?_
    replace h := Option.bind_eq_some_iff.mp h; obtain ⟨e6, he6, h⟩ := h
    refine ev_weak _ (mLe_some (mLe_some (mLe_some (mLe_some mLe_nil)))) (e_X10_who_L15 (fun z => e6 = z) o v1 w (fun e6q hq => ?_) mFuel (0 : Int32) (0 : Int32) _ he6 rfl)
    subst hq
    refine ev_iload_n (q := 45) dX10_who_44 rfl rfl ?_
    cases h
    exact ev_iret dX10_who_45 rfl rfl
def f_X1_init (o : Nat) (w : mW) : Option (Unit) := Option.bind (f_X9_init o  w) fun r1 => some (())
set_option maxRecDepth 100000 in
set_option maxHeartbeats 4000000 in
theorem met_X1_init (o : Nat) (w : mW) (res : Unit) (h : f_X1_init o w = some res) : mMet M_X1_init 3 [vr ((some o))] w none w := by
  refine ev_met (n := 0) (by decide) rfl fun X => ?_
  unfold f_X1_init at h
  show mEv X M_X1_init 3 _ _ 0 [some (vr ((some o)))] [] w
  refine ev_aload_n (q := 1) dX1_init_0 rfl rfl ?_
  replace h := Option.bind_eq_some_iff.mp h; obtain ⟨r1, hr1, h⟩ := h
  refine ev_invIN (M1 := M_X9_init) (as := []) dX1_init_1 rfl tw_439 cal_X9_init tw_423 rfl rfl (by decide) rfl rfl (Nat.le_of_ble_eq_true rfl) (met_X9_init o  w _ hr1) ?_
  cases h
  exact ev_vret dX1_init_4 rfl
def f_X6_turnsOf_J24 (kc : Int32 → Int32 → Option (Int32)) (o : Nat) (v1 : Int32) (v2 : Int32) (v3 : Int32) (w : mW) : Option (Int32) := kc v2 (v3 + (1 : Int32))
set_option maxRecDepth 100000 in
set_option maxHeartbeats 4000000 in
theorem e_X6_turnsOf_J24 {X : mXs} {r : Option mV} {w' : mW} (P : (Int32) → Prop) (o : Nat) (v1 : Int32) (v2 : Int32) (v3 : Int32) (w : mW) (kc : Int32 → Int32 → Option (Int32)) (hk : ∀ (u2 : Int32) (u3 : Int32) (e : Int32), kc u2 u3 = some e → P e → mEv X M_X6_turnsOf 3 r w' 4 [some (vr ((some o))), some (vi v1), some (vi u2), some (vi u3)] [] w) (e : Int32) (h : f_X6_turnsOf_J24 kc o v1 v2 v3 w = some e) (hP : P e) : mEv X M_X6_turnsOf 3 r w' 24 [some (vr ((some o))), some (vi v1), some (vi v2), some (vi v3)] [] w := by
  unfold f_X6_turnsOf_J24 at h
  refine ev_iinc (q := 27) (v := v3 + (1 : Int32)) dX6_turnsOf_24 rfl (by decide) rfl (by rfl) ?_
  refine ev_goto (q := 4) dX6_turnsOf_27 (by decide) ?_
  exact ev_weak _ (mLe_some (mLe_some (mLe_some (mLe_some mLe_nil)))) (hk v2 (v3 + (1 : Int32)) _ h hP)
def f_X6_turnsOf_L4 (o : Nat) (v1 : Int32) (w : mW) : Nat → Int32 → Int32 → Option (Int32)
  | 0, _, _ => none
  | n + 1, v2, v3 => if (5 : Int32) ≤ v3 then (some (v2)) else (Option.bind (kO w (some o) 6) fun _ => Option.bind (f_X6_allows o v1 v3 w) fun r1 => if r1 = 0 then (f_X6_turnsOf_J24 (f_X6_turnsOf_L4 o v1 w n) o v1 v2 v3 w) else (f_X6_turnsOf_J24 (f_X6_turnsOf_L4 o v1 w n) o v1 (v2 ||| ((1 : Int32) <<< (v3 &&& 31))) v3 w))
set_option maxRecDepth 100000 in
set_option maxHeartbeats 4000000 in
theorem e_X6_turnsOf_L4 {X : mXs} {r : Option mV} {w' : mW} (P : (Int32) → Prop) (o : Nat) (v1 : Int32) (w : mW) (hexit : ∀ y, P y → mEv X M_X6_turnsOf 3 r w' 30 [none, none, some (vi y), none] [] w) : ∀ (n : Nat) (v2 : Int32) (v3 : Int32) (e : Int32), f_X6_turnsOf_L4 o v1 w n v2 v3 = some e → P e → mEv X M_X6_turnsOf 3 r w' 4 [some (vr ((some o))), some (vi v1), some (vi v2), some (vi v3)] [] w := by
  intro n
  induction n with
  | zero =>
    intro v2 v3 e h hP
    rw [f_X6_turnsOf_L4] at h
    cases h
  | succ n hk =>
    intro v2 v3 e h hP
    rw [f_X6_turnsOf_L4] at h
    refine ev_iload_n (q := 5) dX6_turnsOf_4 rfl rfl ?_
    refine ev_iconst (q := 6) (v := (5 : Int32)) dX6_turnsOf_5 rfl (by decide) ?_
    by_cases hc : (5 : Int32) ≤ v3
    · rw [if_pos hc] at h
      refine ev_icmp_ge_t (q := 30) dX6_turnsOf_6 (by decide) hc ?_
      cases h
      exact ev_weak _ (mLe_none (mLe_none (mLe_some (mLe_none mLe_nil)))) (hexit _ hP)
    · rw [if_neg hc] at h
      refine ev_icmp_ge_f (q := 9) (t0 := 30) dX6_turnsOf_6 (by decide) rfl hc ?_
      refine ev_aload_n (q := 10) dX6_turnsOf_9 rfl rfl ?_
      refine ev_iload_n (q := 11) dX6_turnsOf_10 rfl rfl ?_
      refine ev_iload_n (q := 12) dX6_turnsOf_11 rfl rfl ?_
      replace h := Option.bind_eq_some_iff.mp h; obtain ⟨q2, hq2, h⟩ := h
      obtain ⟨hxq2, fsq2, hkq2⟩ := kO_spec hq2
      cases hxq2
      replace h := Option.bind_eq_some_iff.mp h; obtain ⟨r1, hr1, h⟩ := h
      refine ev_invV (M1 := M_X6_allows) (as := [vi v1, vi v3]) (fs := fsq2) (ci := 6) dX6_turnsOf_12 rfl tw_562 cal_X6_allows tw_564 tw_19 (by decide) rfl rfl (Nat.le_of_ble_eq_true rfl) hkq2 rfl (met_X6_allows o v1 v3 w _ hr1) ?_
      by_cases hc : r1 = 0
      · rw [if_pos hc] at h
        refine ev_if_eq_t (q := 24) dX6_turnsOf_15 (by decide) hc ?_
        exact ev_weak _ (mLe_some (mLe_some (mLe_some (mLe_some mLe_nil)))) (e_X6_turnsOf_J24 P o v1 v2 v3 w _ hk  _ h hP)
      · rw [if_neg hc] at h
        refine ev_if_eq_f (q := 18) (t0 := 24) dX6_turnsOf_15 (by decide) rfl hc ?_
        refine ev_iload_n (q := 19) dX6_turnsOf_18 rfl rfl ?_
        refine ev_iconst (q := 20) (v := (1 : Int32)) dX6_turnsOf_19 rfl (by decide) ?_
        refine ev_iload_n (q := 21) dX6_turnsOf_20 rfl rfl ?_
        refine ev_ishl (q := 22) dX6_turnsOf_21 rfl ?_
        refine ev_ior (q := 23) dX6_turnsOf_22 rfl ?_
        refine ev_istore_n (q := 24) dX6_turnsOf_23 rfl (by decide) ?_
        exact ev_weak _ (mLe_some (mLe_some (mLe_some (mLe_some mLe_nil)))) (e_X6_turnsOf_J24 P o v1 (v2 ||| ((1 : Int32) <<< (v3 &&& 31))) v3 w _ hk  _ h hP)
def f_X6_turnsOf (o : Nat) (v1 : Int32) (w : mW) : Option (Int32) := Option.bind (f_X6_turnsOf_L4 o v1 w mFuel (0 : Int32) (0 : Int32)) fun e3 => some (e3)
set_option maxRecDepth 100000 in
set_option maxHeartbeats 4000000 in
theorem met_X6_turnsOf (o : Nat) (v1 : Int32) (w : mW) (res : Int32) (h : f_X6_turnsOf o v1 w = some res) : mMet M_X6_turnsOf 3 [vr ((some o)), vi v1] w (some (vi res)) w := by
  refine ev_met (n := 2) (by decide) rfl fun X => ?_
  unfold f_X6_turnsOf at h
  show mEv X M_X6_turnsOf 3 _ _ 0 [some (vr ((some o))), some (vi v1), none, none] [] w
  refine ev_iconst (q := 1) (v := (0 : Int32)) dX6_turnsOf_0 rfl (by decide) ?_
  refine ev_istore_n (q := 2) dX6_turnsOf_1 rfl (by decide) ?_
  refine ev_iconst (q := 3) (v := (0 : Int32)) dX6_turnsOf_2 rfl (by decide) ?_
  refine ev_istore_n (q := 4) dX6_turnsOf_3 rfl (by decide) ?_
  replace h := Option.bind_eq_some_iff.mp h; obtain ⟨e3, he3, h⟩ := h
  refine ev_weak _ (mLe_some (mLe_some (mLe_some (mLe_some mLe_nil)))) (e_X6_turnsOf_L4 (fun z => e3 = z) o v1 w (fun e3q hq => ?_) mFuel (0 : Int32) (0 : Int32) _ he3 rfl)
  subst hq
  refine ev_iload_n (q := 31) dX6_turnsOf_30 rfl rfl ?_
  cases h
  exact ev_iret dX6_turnsOf_31 rfl rfl
def f_J0_indexOf_0f7a4 (v1 : Int32) (w : mW) : Option (Int32) := Option.bind (f_J0_indexOf_7cf53 v1 (0 : Int32) w) fun r1 => some (r1)
set_option maxRecDepth 100000 in
set_option maxHeartbeats 4000000 in
theorem met_J0_indexOf_0f7a4 (v1 : Int32) (w : mW) (res : Int32) (h : f_J0_indexOf_0f7a4 v1 w = some res) : mMet M_J0_indexOf_0f7a4 3 [vx 1, vi v1] w (some (vi res)) w := by
  refine ev_met (n := 0) (by decide) rfl fun X => ?_
  unfold f_J0_indexOf_0f7a4 at h
  show mEv X M_J0_indexOf_0f7a4 3 _ _ 0 [some (vx 1), some (vi v1)] [] w
  refine ev_aload_n (q := 1) dJ0_indexOf_0f7a4_0 rfl rfl ?_
  refine ev_iload_n (q := 2) dJ0_indexOf_0f7a4_1 rfl rfl ?_
  refine ev_iconst (q := 3) (v := (0 : Int32)) dJ0_indexOf_0f7a4_2 rfl (by decide) ?_
  replace h := Option.bind_eq_some_iff.mp h; obtain ⟨r1, hr1, h⟩ := h
  refine ev_invStr (M1 := M_J0_indexOf_7cf53) (as := [vi v1, vi ((0 : Int32))]) dJ0_indexOf_0f7a4_3 rfl tw_285 rfl cal_J0_indexOf_7cf53 tw_286 tw_287 (by decide) rfl rfl (Nat.le_of_ble_eq_true rfl) (met_J0_indexOf_7cf53 v1 (0 : Int32) w _ hr1) ?_
  cases h
  exact ev_iret dJ0_indexOf_0f7a4_6 rfl rfl
def f_X10_countChances_J63 (kc : Int32 → mW → Option (mW)) (o : Nat) (v1 : Int32) (v2 : Option Nat) (v3 : Int32) (w : mW) : Option (mW) := kc (v3 + (1 : Int32)) w
set_option maxRecDepth 100000 in
set_option maxHeartbeats 4000000 in
theorem e_X10_countChances_J63 {X : mXs} {r : Option mV} {w' : mW} (P : (mW) → Prop) (o : Nat) (v1 : Int32) (v2 : Option Nat) (v3 : Int32) (w : mW) (kc : Int32 → mW → Option (mW)) (hk : ∀ (u3 : Int32) (uw : mW) (e : mW), kc u3 uw = some e → P e → mEv X M_X10_countChances 4 r w' 25 [some (vr ((some o))), some (vi v1), some (vr v2), some (vi u3), none] [] uw) (e : mW) (h : f_X10_countChances_J63 kc o v1 v2 v3 w = some e) (hP : P e) : mEv X M_X10_countChances 4 r w' 63 [some (vr ((some o))), some (vi v1), some (vr v2), some (vi v3), none] [] w := by
  unfold f_X10_countChances_J63 at h
  refine ev_iinc (q := 66) (v := v3 + (1 : Int32)) dX10_countChances_63 rfl (by decide) rfl (by rfl) ?_
  refine ev_goto (q := 25) dX10_countChances_66 (by decide) ?_
  exact ev_weak _ (mLe_some (mLe_some (mLe_some (mLe_some (mLe_none mLe_nil))))) (hk (v3 + (1 : Int32)) w _ h hP)
def f_X10_countChances_L25 (o : Nat) (v1 : Int32) (v2 : Option Nat) : Nat → Int32 → mW → Option (mW)
  | 0, _, _ => none
  | n + 1, v3, w => if (36 : Int32) ≤ v3 then (some (w)) else (Option.bind (gR w (some o) 10 3) fun r1 => Option.bind (gI w r1 2 8) fun r2 => Option.bind (kO w (some o) 10) fun _ => Option.bind (f_X10_landing o v1 v3 r2 w) fun r3 => oC v2 (f_X10_countChances_J63 (f_X10_countChances_L25 o v1 v2 n) o v1 none v3 w) (fun a5 => if r3 = (-1 : Int32) then (f_X10_countChances_J63 (f_X10_countChances_L25 o v1 v2 n) o v1 (some a5) v3 w) else (Option.bind (kO w (some o) 10) fun _ => Option.bind (f_X10_addChances o (some a5) r3 w) fun w6 => f_X10_countChances_J63 (f_X10_countChances_L25 o v1 v2 n) o v1 (some a5) v3 w6)))
set_option maxRecDepth 100000 in
set_option maxHeartbeats 4000000 in
theorem e_X10_countChances_L25 {X : mXs} {r : Option mV} {w' : mW} (P : (mW) → Prop) (o : Nat) (v1 : Int32) (v2 : Option Nat) (hexit : ∀ y, P y → mEv X M_X10_countChances 4 r w' 69 [some (vr ((some o))), some (vi v1), none, none, none] [] y) : ∀ (n : Nat) (v3 : Int32) (w : mW) (e : mW), f_X10_countChances_L25 o v1 v2 n v3 w = some e → P e → mEv X M_X10_countChances 4 r w' 25 [some (vr ((some o))), some (vi v1), some (vr v2), some (vi v3), none] [] w := by
  intro n
  induction n with
  | zero =>
    intro v3 w e h hP
    rw [f_X10_countChances_L25] at h
    cases h
  | succ n hk =>
    intro v3 w e h hP
    rw [f_X10_countChances_L25] at h
    refine ev_iload_n (q := 26) dX10_countChances_25 rfl rfl ?_
    refine ev_bipush (q := 28) (v := (36 : Int32)) dX10_countChances_26 rfl (by decide) ?_
    by_cases hc : (36 : Int32) ≤ v3
    · rw [if_pos hc] at h
      refine ev_icmp_ge_t (q := 69) dX10_countChances_28 (by decide) hc ?_
      cases h
      exact ev_weak _ (mLe_some (mLe_some (mLe_none (mLe_none (mLe_none mLe_nil))))) (hexit _ hP)
    · rw [if_neg hc] at h
      refine ev_icmp_ge_f (q := 31) (t0 := 69) dX10_countChances_28 (by decide) rfl hc ?_
      refine ev_aload_n (q := 32) dX10_countChances_31 rfl rfl ?_
      refine ev_iload_n (q := 33) dX10_countChances_32 rfl rfl ?_
      refine ev_iload_n (q := 34) dX10_countChances_33 rfl rfl ?_
      refine ev_aload_n (q := 35) dX10_countChances_34 rfl rfl ?_
      replace h := Option.bind_eq_some_iff.mp h; obtain ⟨r1, hr1, h⟩ := h
      refine ev_gR dX10_countChances_35 fl_X10_32 hr1 rfl ?_
      replace h := Option.bind_eq_some_iff.mp h; obtain ⟨r2, hr2, h⟩ := h
      refine ev_gI dX10_countChances_38 fl_X10_146 hr2 rfl ?_
      replace h := Option.bind_eq_some_iff.mp h; obtain ⟨q4, hq4, h⟩ := h
      obtain ⟨hxq4, fsq4, hkq4⟩ := kO_spec hq4
      cases hxq4
      replace h := Option.bind_eq_some_iff.mp h; obtain ⟨r3, hr3, h⟩ := h
      refine ev_invV (M1 := M_X10_landing) (as := [vi v1, vi v3, vi r2]) (fs := fsq4) (ci := 10) dX10_countChances_41 rfl tw_465 cal_X10_landing tw_467 tw_13 (by decide) rfl rfl (Nat.le_of_ble_eq_true rfl) hkq4 rfl (met_X10_landing o v1 v3 r2 w _ hr3) ?_
      refine ev_istore (q := 46) dX10_countChances_44 rfl (by decide) ?_
      refine ev_aload_n (q := 47) dX10_countChances_46 rfl rfl ?_
      rcases v2 with _ | a5
      · dsimp only [oC] at h
        refine ev_ifnull_t (q := 63) dX10_countChances_47 (by decide) ?_
        exact ev_weak _ (mLe_some (mLe_some (mLe_some (mLe_some (mLe_none mLe_nil))))) (e_X10_countChances_J63 P o v1 none v3 w _ hk  _ h hP)
      · dsimp only [oC] at h
        refine ev_ifnull_f (q := 50) dX10_countChances_47 rfl ?_
        refine ev_iload (q := 52) dX10_countChances_50 rfl rfl ?_
        refine ev_iconst (q := 53) (v := (-1 : Int32)) dX10_countChances_52 rfl (by decide) ?_
        by_cases hc : r3 = (-1 : Int32)
        · rw [if_pos hc] at h
          refine ev_icmp_eq_t (q := 63) dX10_countChances_53 (by decide) hc ?_
          exact ev_weak _ (mLe_some (mLe_some (mLe_some (mLe_some (mLe_none mLe_nil))))) (e_X10_countChances_J63 P o v1 (some a5) v3 w _ hk  _ h hP)
        · rw [if_neg hc] at h
          refine ev_icmp_eq_f (q := 56) (t0 := 63) dX10_countChances_53 (by decide) rfl hc ?_
          refine ev_aload_n (q := 57) dX10_countChances_56 rfl rfl ?_
          refine ev_aload_n (q := 58) dX10_countChances_57 rfl rfl ?_
          refine ev_iload (q := 60) dX10_countChances_58 rfl rfl ?_
          replace h := Option.bind_eq_some_iff.mp h; obtain ⟨q7, hq7, h⟩ := h
          obtain ⟨hxq7, fsq7, hkq7⟩ := kO_spec hq7
          cases hxq7
          replace h := Option.bind_eq_some_iff.mp h; obtain ⟨w6, hw6, h⟩ := h
          refine ev_invV (M1 := M_X10_addChances) (as := [vr ((some a5)), vi r3]) (fs := fsq7) (ci := 10) dX10_countChances_60 rfl tw_470 cal_X10_addChances tw_472 tw_14 (by decide) rfl rfl (Nat.le_of_ble_eq_true rfl) hkq7 rfl (met_X10_addChances o (some a5) r3 w _ hw6) ?_
          exact ev_weak _ (mLe_some (mLe_some (mLe_some (mLe_some (mLe_none mLe_nil))))) (e_X10_countChances_J63 P o v1 (some a5) v3 w6 _ hk  _ h hP)
def f_X10_countChances_L9 (o : Nat) : Nat → Int32 → mW → Option (mW)
  | 0, _, _ => none
  | n + 1, v1, w => Option.bind (gI w (some o) 10 8) fun r8 => if r8 ≤ v1 then (some (w)) else (Option.bind (kO w (some o) 10) fun _ => Option.bind (f_X10_tosserAt o v1 w) fun r9 => Option.bind (f_X10_countChances_L25 o v1 r9 mFuel (0 : Int32) w) fun e11 => (f_X10_countChances_L9 o n) (v1 + (1 : Int32)) e11)
set_option maxRecDepth 100000 in
set_option maxHeartbeats 4000000 in
theorem e_X10_countChances_L9 {X : mXs} {r : Option mV} {w' : mW} (P : (mW) → Prop) (o : Nat) (hexit : ∀ y, P y → mEv X M_X10_countChances 4 r w' 75 [none, none, none, none, none] [] y) : ∀ (n : Nat) (v1 : Int32) (w : mW) (e : mW), f_X10_countChances_L9 o n v1 w = some e → P e → mEv X M_X10_countChances 4 r w' 9 [some (vr ((some o))), some (vi v1), none, none, none] [] w := by
  intro n
  induction n with
  | zero =>
    intro v1 w e h hP
    rw [f_X10_countChances_L9] at h
    cases h
  | succ n hk =>
    intro v1 w e h hP
    rw [f_X10_countChances_L9] at h
    refine ev_iload_n (q := 10) dX10_countChances_9 rfl rfl ?_
    refine ev_aload_n (q := 11) dX10_countChances_10 rfl rfl ?_
    replace h := Option.bind_eq_some_iff.mp h; obtain ⟨r8, hr8, h⟩ := h
    refine ev_gI dX10_countChances_11 fl_X10_197 hr8 rfl ?_
    by_cases hc : r8 ≤ v1
    · rw [if_pos hc] at h
      refine ev_icmp_ge_t (q := 75) dX10_countChances_14 (by decide) hc ?_
      cases h
      exact ev_weak _ (mLe_none (mLe_none (mLe_none (mLe_none (mLe_none mLe_nil))))) (hexit _ hP)
    · rw [if_neg hc] at h
      refine ev_icmp_ge_f (q := 17) (t0 := 75) dX10_countChances_14 (by decide) rfl hc ?_
      refine ev_aload_n (q := 18) dX10_countChances_17 rfl rfl ?_
      refine ev_iload_n (q := 19) dX10_countChances_18 rfl rfl ?_
      replace h := Option.bind_eq_some_iff.mp h; obtain ⟨q10, hq10, h⟩ := h
      obtain ⟨hxq10, fsq10, hkq10⟩ := kO_spec hq10
      cases hxq10
      replace h := Option.bind_eq_some_iff.mp h; obtain ⟨r9, hr9, h⟩ := h
      refine ev_invV (M1 := M_X10_tosserAt) (as := [vi v1]) (fs := fsq10) (ci := 10) dX10_countChances_19 rfl tw_461 cal_X10_tosserAt tw_463 tw_12 (by decide) rfl rfl (Nat.le_of_ble_eq_true rfl) hkq10 rfl (met_X10_tosserAt o v1 w _ hr9) ?_
      refine ev_astore_n (q := 23) dX10_countChances_22 rfl (by decide) ?_
      refine ev_iconst (q := 24) (v := (0 : Int32)) dX10_countChances_23 rfl (by decide) ?_
      refine ev_istore_n (q := 25) dX10_countChances_24 rfl (by decide) ?_
      replace h := Option.bind_eq_some_iff.mp h; obtain ⟨e11, he11, h⟩ := h
      refine ev_weak _ (mLe_some (mLe_some (mLe_some (mLe_some (mLe_none mLe_nil))))) (e_X10_countChances_L25 (fun z => e11 = z) o v1 r9 (fun e11q hq => ?_) mFuel (0 : Int32) w _ he11 rfl)
      subst hq
      refine ev_iinc (q := 72) (v := v1 + (1 : Int32)) dX10_countChances_69 rfl (by decide) rfl (by rfl) ?_
      refine ev_goto (q := 9) dX10_countChances_72 (by decide) ?_
      exact ev_weak _ (mLe_some (mLe_some (mLe_none (mLe_none (mLe_none mLe_nil))))) (hk (v1 + (1 : Int32)) e11 _ h hP)
def f_X10_countChances (o : Nat) (w : mW) : Option (mW) := Option.bind (gR w (some o) 10 6) fun r12 => Option.bind (f_X10_clear r12 w) fun w13 => Option.bind (f_X10_countChances_L9 o mFuel (0 : Int32) w13) fun e14 => some (e14)
set_option maxRecDepth 100000 in
set_option maxHeartbeats 4000000 in
theorem met_X10_countChances (o : Nat) (w : mW) (res : mW) (h : f_X10_countChances o w = some res) : mMet M_X10_countChances 4 [vr ((some o))] w none res := by
  refine ev_met (n := 4) (by decide) rfl fun X => ?_
  unfold f_X10_countChances at h
  show mEv X M_X10_countChances 4 _ _ 0 [some (vr ((some o))), none, none, none, none] [] w
  refine ev_aload_n (q := 1) dX10_countChances_0 rfl rfl ?_
  replace h := Option.bind_eq_some_iff.mp h; obtain ⟨r12, hr12, h⟩ := h
  refine ev_gR dX10_countChances_1 fl_X10_46 hr12 rfl ?_
  replace h := Option.bind_eq_some_iff.mp h; obtain ⟨w13, hw13, h⟩ := h
  refine ev_invS (M1 := M_X10_clear) (as := [vr r12]) dX10_countChances_4 rfl tw_460 cal_X10_clear tw_404 (by decide) rfl rfl (Nat.le_of_ble_eq_true rfl) (met_X10_clear r12 w _ hw13) ?_
  refine ev_iconst (q := 8) (v := (0 : Int32)) dX10_countChances_7 rfl (by decide) ?_
  refine ev_istore_n (q := 9) dX10_countChances_8 rfl (by decide) ?_
  replace h := Option.bind_eq_some_iff.mp h; obtain ⟨e14, he14, h⟩ := h
  refine ev_weak _ (mLe_some (mLe_some (mLe_none (mLe_none (mLe_none mLe_nil))))) (e_X10_countChances_L9 (fun z => e14 = z) o (fun e14q hq => ?_) mFuel (0 : Int32) w13 _ he14 rfl)
  subst hq
  cases h
  exact ev_vret dX10_countChances_75 rfl
def f_X10_covers (o : Nat) (v1 : Int32) (v2 : Int32) (w : mW) : Option (Int32) := Option.bind (kO w (some o) 10) fun _ => Option.bind (f_X10_isToss o v1 v2 w) fun r1 => if r1 = 0 then (some ((-101 : Int32))) else (Option.bind (gR w (some o) 10 3) fun r3 => Option.bind (gI w r3 2 8) fun r4 => Option.bind (kO w (some o) 10) fun _ => Option.bind (f_X10_crowdUnder o v1 v2 r4 w) fun r5 => some (r5))
set_option maxRecDepth 100000 in
set_option maxHeartbeats 4000000 in
theorem met_X10_covers (o : Nat) (v1 : Int32) (v2 : Int32) (w : mW) (res : Int32) (h : f_X10_covers o v1 v2 w = some res) : mMet M_X10_covers 4 [vr ((some o)), vi v1, vi v2] w (some (vi res)) w := by
  refine ev_met (n := 0) (by decide) rfl fun X => ?_
  unfold f_X10_covers at h
  show mEv X M_X10_covers 4 _ _ 0 [some (vr ((some o))), some (vi v1), some (vi v2)] [] w
  refine ev_aload_n (q := 1) dX10_covers_0 rfl rfl ?_
  refine ev_iload_n (q := 2) dX10_covers_1 rfl rfl ?_
  refine ev_iload_n (q := 3) dX10_covers_2 rfl rfl ?_
  replace h := Option.bind_eq_some_iff.mp h; obtain ⟨q2, hq2, h⟩ := h
  obtain ⟨hxq2, fsq2, hkq2⟩ := kO_spec hq2
  cases hxq2
  replace h := Option.bind_eq_some_iff.mp h; obtain ⟨r1, hr1, h⟩ := h
  refine ev_invV (M1 := M_X10_isToss) (as := [vi v1, vi v2]) (fs := fsq2) (ci := 10) dX10_covers_3 rfl tw_592 cal_X10_isToss tw_594 tw_20 (by decide) rfl rfl (Nat.le_of_ble_eq_true rfl) hkq2 rfl (met_X10_isToss o v1 v2 w _ hr1) ?_
  by_cases hc : r1 = 0
  · rw [if_pos hc] at h
    refine ev_if_ne_f (q := 9) (t0 := 12) dX10_covers_6 (by decide) rfl hc ?_
    refine ev_bipush (q := 11) (v := (-101 : Int32)) dX10_covers_9 rfl (by decide) ?_
    cases h
    exact ev_iret dX10_covers_11 rfl rfl
  · rw [if_neg hc] at h
    refine ev_if_ne_t (q := 12) dX10_covers_6 (by decide) hc ?_
    refine ev_aload_n (q := 13) dX10_covers_12 rfl rfl ?_
    refine ev_iload_n (q := 14) dX10_covers_13 rfl rfl ?_
    refine ev_iload_n (q := 15) dX10_covers_14 rfl rfl ?_
    refine ev_aload_n (q := 16) dX10_covers_15 rfl rfl ?_
    replace h := Option.bind_eq_some_iff.mp h; obtain ⟨r3, hr3, h⟩ := h
    refine ev_gR dX10_covers_16 fl_X10_32 hr3 rfl ?_
    replace h := Option.bind_eq_some_iff.mp h; obtain ⟨r4, hr4, h⟩ := h
    refine ev_gI dX10_covers_19 fl_X10_146 hr4 rfl ?_
    replace h := Option.bind_eq_some_iff.mp h; obtain ⟨q6, hq6, h⟩ := h
    obtain ⟨hxq6, fsq6, hkq6⟩ := kO_spec hq6
    cases hxq6
    replace h := Option.bind_eq_some_iff.mp h; obtain ⟨r5, hr5, h⟩ := h
    refine ev_invV (M1 := M_X10_crowdUnder) (as := [vi v1, vi v2, vi r4]) (fs := fsq6) (ci := 10) dX10_covers_22 rfl tw_548 cal_X10_crowdUnder tw_550 tw_18 (by decide) rfl rfl (Nat.le_of_ble_eq_true rfl) hkq6 rfl (met_X10_crowdUnder o v1 v2 r4 w _ hr5) ?_
    cases h
    exact ev_iret dX10_covers_25 rfl rfl
def f_X10_freshOf (o : Nat) (v1 : Int32) (v2 : Int32) (w : mW) : Option (Int32) := Option.bind (gR w (some o) 10 3) fun r1 => Option.bind (gI w r1 2 8) fun r2 => Option.bind (kO w (some o) 10) fun _ => Option.bind (f_X10_crowdUnder o v1 v2 r2 w) fun r3 => Option.bind (gR w (some o) 10 3) fun r5 => Option.bind (gI w r5 2 7) fun r6 => Option.bind (f_J6_bitCount_0f7a4 (r3 &&& (r6 ^^^ (-1 : Int32))) w) fun r7 => some (r7)
set_option maxRecDepth 100000 in
set_option maxHeartbeats 4000000 in
theorem met_X10_freshOf (o : Nat) (v1 : Int32) (v2 : Int32) (w : mW) (res : Int32) (h : f_X10_freshOf o v1 v2 w = some res) : mMet M_X10_freshOf 4 [vr ((some o)), vi v1, vi v2] w (some (vi res)) w := by
  refine ev_met (n := 0) (by decide) rfl fun X => ?_
  unfold f_X10_freshOf at h
  show mEv X M_X10_freshOf 4 _ _ 0 [some (vr ((some o))), some (vi v1), some (vi v2)] [] w
  refine ev_aload_n (q := 1) dX10_freshOf_0 rfl rfl ?_
  refine ev_iload_n (q := 2) dX10_freshOf_1 rfl rfl ?_
  refine ev_iload_n (q := 3) dX10_freshOf_2 rfl rfl ?_
  refine ev_aload_n (q := 4) dX10_freshOf_3 rfl rfl ?_
  replace h := Option.bind_eq_some_iff.mp h; obtain ⟨r1, hr1, h⟩ := h
  refine ev_gR dX10_freshOf_4 fl_X10_32 hr1 rfl ?_
  replace h := Option.bind_eq_some_iff.mp h; obtain ⟨r2, hr2, h⟩ := h
  refine ev_gI dX10_freshOf_7 fl_X10_146 hr2 rfl ?_
  replace h := Option.bind_eq_some_iff.mp h; obtain ⟨q4, hq4, h⟩ := h
  obtain ⟨hxq4, fsq4, hkq4⟩ := kO_spec hq4
  cases hxq4
  replace h := Option.bind_eq_some_iff.mp h; obtain ⟨r3, hr3, h⟩ := h
  refine ev_invV (M1 := M_X10_crowdUnder) (as := [vi v1, vi v2, vi r2]) (fs := fsq4) (ci := 10) dX10_freshOf_10 rfl tw_548 cal_X10_crowdUnder tw_550 tw_18 (by decide) rfl rfl (Nat.le_of_ble_eq_true rfl) hkq4 rfl (met_X10_crowdUnder o v1 v2 r2 w _ hr3) ?_
  refine ev_aload_n (q := 14) dX10_freshOf_13 rfl rfl ?_
  replace h := Option.bind_eq_some_iff.mp h; obtain ⟨r5, hr5, h⟩ := h
  refine ev_gR dX10_freshOf_14 fl_X10_32 hr5 rfl ?_
  replace h := Option.bind_eq_some_iff.mp h; obtain ⟨r6, hr6, h⟩ := h
  refine ev_gI dX10_freshOf_17 fl_X10_86 hr6 rfl ?_
  refine ev_iconst (q := 21) (v := (-1 : Int32)) dX10_freshOf_20 rfl (by decide) ?_
  refine ev_ixor (q := 22) dX10_freshOf_21 rfl ?_
  refine ev_iand (q := 23) dX10_freshOf_22 rfl ?_
  replace h := Option.bind_eq_some_iff.mp h; obtain ⟨r7, hr7, h⟩ := h
  refine ev_invS (M1 := M_J6_bitCount_0f7a4) (as := [vi (r3 &&& (r6 ^^^ (-1 : Int32)))]) dX10_freshOf_23 rfl tw_552 cal_J6_bitCount_0f7a4 tw_553 (by decide) rfl rfl (Nat.le_of_ble_eq_true rfl) (met_J6_bitCount_0f7a4 (r3 &&& (r6 ^^^ (-1 : Int32))) w _ hr7) ?_
  cases h
  exact ev_iret dX10_freshOf_26 rfl rfl
def f_X10_odds_L26 (o : Nat) (v1 : Int32) (v2 : Int32) (v3 : Int32) (w : mW) : Nat → Int32 → Int32 → Option (Int32)
  | 0, _, _ => none
  | n + 1, v4, v5 => if (1 : Int32) < v5 then (some (v4)) else (Option.bind (kO w (some o) 10) fun _ => Option.bind (f_X10_crowdUnder o v2 v3 v5 w) fun r1 => (f_X10_odds_L26 o v1 v2 v3 w n) (v4 + ((r1 >>> (v1 &&& 31)) &&& (1 : Int32))) (v5 + (1 : Int32)))
set_option maxRecDepth 100000 in
set_option maxHeartbeats 4000000 in
theorem e_X10_odds_L26 {X : mXs} {r : Option mV} {w' : mW} (P : (Int32) → Prop) (o : Nat) (v1 : Int32) (v2 : Int32) (v3 : Int32) (w : mW) (hexit : ∀ y, P y → mEv X M_X10_odds 4 r w' 55 [none, none, none, none, some (vi y), none] [] w) : ∀ (n : Nat) (v4 : Int32) (v5 : Int32) (e : Int32), f_X10_odds_L26 o v1 v2 v3 w n v4 v5 = some e → P e → mEv X M_X10_odds 4 r w' 26 [some (vr ((some o))), some (vi v1), some (vi v2), some (vi v3), some (vi v4), some (vi v5)] [] w := by
  intro n
  induction n with
  | zero =>
    intro v4 v5 e h hP
    rw [f_X10_odds_L26] at h
    cases h
  | succ n hk =>
    intro v4 v5 e h hP
    rw [f_X10_odds_L26] at h
    refine ev_iload (q := 28) dX10_odds_26 rfl rfl ?_
    refine ev_iconst (q := 29) (v := (1 : Int32)) dX10_odds_28 rfl (by decide) ?_
    by_cases hc : (1 : Int32) < v5
    · rw [if_pos hc] at h
      refine ev_icmp_gt_t (q := 55) dX10_odds_29 (by decide) hc ?_
      cases h
      exact ev_weak _ (mLe_none (mLe_none (mLe_none (mLe_none (mLe_some (mLe_none mLe_nil)))))) (hexit _ hP)
    · rw [if_neg hc] at h
      refine ev_icmp_gt_f (q := 32) (t0 := 55) dX10_odds_29 (by decide) rfl hc ?_
      refine ev_iload (q := 34) dX10_odds_32 rfl rfl ?_
      refine ev_aload_n (q := 35) dX10_odds_34 rfl rfl ?_
      refine ev_iload_n (q := 36) dX10_odds_35 rfl rfl ?_
      refine ev_iload_n (q := 37) dX10_odds_36 rfl rfl ?_
      refine ev_iload (q := 39) dX10_odds_37 rfl rfl ?_
      replace h := Option.bind_eq_some_iff.mp h; obtain ⟨q2, hq2, h⟩ := h
      obtain ⟨hxq2, fsq2, hkq2⟩ := kO_spec hq2
      cases hxq2
      replace h := Option.bind_eq_some_iff.mp h; obtain ⟨r1, hr1, h⟩ := h
      refine ev_invV (M1 := M_X10_crowdUnder) (as := [vi v2, vi v3, vi v5]) (fs := fsq2) (ci := 10) dX10_odds_39 rfl tw_548 cal_X10_crowdUnder tw_550 tw_18 (by decide) rfl rfl (Nat.le_of_ble_eq_true rfl) hkq2 rfl (met_X10_crowdUnder o v2 v3 v5 w _ hr1) ?_
      refine ev_iload_n (q := 43) dX10_odds_42 rfl rfl ?_
      refine ev_ishr (q := 44) dX10_odds_43 rfl ?_
      refine ev_iconst (q := 45) (v := (1 : Int32)) dX10_odds_44 rfl (by decide) ?_
      refine ev_iand (q := 46) dX10_odds_45 rfl ?_
      refine ev_iadd (q := 47) dX10_odds_46 rfl ?_
      refine ev_istore (q := 49) dX10_odds_47 rfl (by decide) ?_
      refine ev_iinc (q := 52) (v := v5 + (1 : Int32)) dX10_odds_49 rfl (by decide) rfl (by rfl) ?_
      refine ev_goto (q := 26) dX10_odds_52 (by decide) ?_
      exact ev_weak _ (mLe_some (mLe_some (mLe_some (mLe_some (mLe_some (mLe_some mLe_nil)))))) (hk (v4 + ((r1 >>> (v1 &&& 31)) &&& (1 : Int32))) (v5 + (1 : Int32)) _ h hP)
def f_X10_odds_J17 (w : mW) : Option (Int32) := some ((-101 : Int32))
set_option maxRecDepth 100000 in
set_option maxHeartbeats 4000000 in
theorem e_X10_odds_J17 {X : mXs} (w : mW) (res : Int32) (h : f_X10_odds_J17 w = some res) : mEv X M_X10_odds 4 (some (vi res)) w 17 [none, none, none, none, none, none] [] w := by
  unfold f_X10_odds_J17 at h
  refine ev_bipush (q := 19) (v := (-101 : Int32)) dX10_odds_17 rfl (by decide) ?_
  cases h
  exact ev_iret dX10_odds_19 rfl rfl
def f_X10_odds (o : Nat) (v1 : Int32) (v2 : Int32) (v3 : Int32) (w : mW) : Option (Int32) := Option.bind (kO w (some o) 10) fun _ => Option.bind (f_X10_isSleeper o v1 w) fun r3 => if r3 = 0 then (f_X10_odds_J17 w) else (Option.bind (kO w (some o) 10) fun _ => Option.bind (f_X10_isToss o v2 v3 w) fun r5 => if r5 = 0 then (f_X10_odds_J17 w) else (Option.bind (f_X10_odds_L26 o v1 v2 v3 w mFuel (0 : Int32) (-1 : Int32)) fun e7 => some (e7)))
set_option maxRecDepth 100000 in
set_option maxHeartbeats 4000000 in
theorem met_X10_odds (o : Nat) (v1 : Int32) (v2 : Int32) (v3 : Int32) (w : mW) (res : Int32) (h : f_X10_odds o v1 v2 v3 w = some res) : mMet M_X10_odds 4 [vr ((some o)), vi v1, vi v2, vi v3] w (some (vi res)) w := by
  refine ev_met (n := 2) (by decide) rfl fun X => ?_
  unfold f_X10_odds at h
  show mEv X M_X10_odds 4 _ _ 0 [some (vr ((some o))), some (vi v1), some (vi v2), some (vi v3), none, none] [] w
  refine ev_aload_n (q := 1) dX10_odds_0 rfl rfl ?_
  refine ev_iload_n (q := 2) dX10_odds_1 rfl rfl ?_
  replace h := Option.bind_eq_some_iff.mp h; obtain ⟨q4, hq4, h⟩ := h
  obtain ⟨hxq4, fsq4, hkq4⟩ := kO_spec hq4
  cases hxq4
  replace h := Option.bind_eq_some_iff.mp h; obtain ⟨r3, hr3, h⟩ := h
  refine ev_invV (M1 := M_X10_isSleeper) (as := [vi v1]) (fs := fsq4) (ci := 10) dX10_odds_2 rfl tw_448 cal_X10_isSleeper tw_450 tw_9 (by decide) rfl rfl (Nat.le_of_ble_eq_true rfl) hkq4 rfl (met_X10_isSleeper o v1 w _ hr3) ?_
  by_cases hc : r3 = 0
  · rw [if_pos hc] at h
    refine ev_if_eq_t (q := 17) dX10_odds_5 (by decide) hc ?_
    exact ev_weak _ (mLe_none (mLe_none (mLe_none (mLe_none (mLe_none (mLe_none mLe_nil)))))) (e_X10_odds_J17 w _ h)
  · rw [if_neg hc] at h
    refine ev_if_eq_f (q := 8) (t0 := 17) dX10_odds_5 (by decide) rfl hc ?_
    refine ev_aload_n (q := 9) dX10_odds_8 rfl rfl ?_
    refine ev_iload_n (q := 10) dX10_odds_9 rfl rfl ?_
    refine ev_iload_n (q := 11) dX10_odds_10 rfl rfl ?_
    replace h := Option.bind_eq_some_iff.mp h; obtain ⟨q6, hq6, h⟩ := h
    obtain ⟨hxq6, fsq6, hkq6⟩ := kO_spec hq6
    cases hxq6
    replace h := Option.bind_eq_some_iff.mp h; obtain ⟨r5, hr5, h⟩ := h
    refine ev_invV (M1 := M_X10_isToss) (as := [vi v2, vi v3]) (fs := fsq6) (ci := 10) dX10_odds_11 rfl tw_592 cal_X10_isToss tw_594 tw_20 (by decide) rfl rfl (Nat.le_of_ble_eq_true rfl) hkq6 rfl (met_X10_isToss o v2 v3 w _ hr5) ?_
    by_cases hc : r5 = 0
    · rw [if_pos hc] at h
      refine ev_if_ne_f (q := 17) (t0 := 20) dX10_odds_14 (by decide) rfl hc ?_
      exact ev_weak _ (mLe_none (mLe_none (mLe_none (mLe_none (mLe_none (mLe_none mLe_nil)))))) (e_X10_odds_J17 w _ h)
    · rw [if_neg hc] at h
      refine ev_if_ne_t (q := 20) dX10_odds_14 (by decide) hc ?_
      refine ev_iconst (q := 21) (v := (0 : Int32)) dX10_odds_20 rfl (by decide) ?_
      refine ev_istore (q := 23) dX10_odds_21 rfl (by decide) ?_
      refine ev_iconst (q := 24) (v := (-1 : Int32)) dX10_odds_23 rfl (by decide) ?_
      refine ev_istore (q := 26) dX10_odds_24 rfl (by decide) ?_
      replace h := Option.bind_eq_some_iff.mp h; obtain ⟨e7, he7, h⟩ := h
      refine ev_weak _ (mLe_some (mLe_some (mLe_some (mLe_some (mLe_some (mLe_some mLe_nil)))))) (e_X10_odds_L26 (fun z => e7 = z) o v1 v2 v3 w (fun e7q hq => ?_) mFuel (0 : Int32) (-1 : Int32) _ he7 rfl)
      subst hq
      refine ev_iload (q := 57) dX10_odds_55 rfl rfl ?_
      cases h
      exact ev_iret dX10_odds_57 rfl rfl
def f_X10_seasons_J159 (s0 : Int32) (w : mW) : Option (Int32) := some (s0)
set_option maxRecDepth 100000 in
set_option maxHeartbeats 4000000 in
theorem e_X10_seasons_J159 {X : mXs} (s0 : Int32) (w : mW) (res : Int32) (h : f_X10_seasons_J159 s0 w = some res) : mEv X M_X10_seasons 4 (some (vi res)) w 159 [none, none, none, none, none, none, none, none, none, none, none] [vi s0] w := by
  unfold f_X10_seasons_J159 at h
  cases h
  exact ev_iret dX10_seasons_159 rfl rfl
def f_X10_seasons_L49 (o : Nat) (v1 : Int32) (v3 : Int32) (w : mW) : Nat → Int32 → Int32 → Int32 → Int32 → Option (Int32 × Int32 × Int32)
  | 0, _, _, _, _ => none
  | n + 1, v4, v5, v6, v7 => if v1 ≤ v7 then (some ((v4, v5, v6))) else (Option.bind (f_X10_nextSeed v4 w) fun r1 => Option.bind (f_X10_draw r1 (3 : Int32) w) fun r2 => Option.bind (f_X10_nextSeed r1 w) fun r3 => Option.bind (gI w (some o) 10 8) fun r4 => Option.bind (f_X10_draw r3 r4 w) fun r5 => Option.bind (f_X10_nextSeed r3 w) fun r6 => Option.bind (f_X10_draw r6 (36 : Int32) w) fun r7 => Option.bind (kO w (some o) 10) fun _ => Option.bind (f_X10_crowdUnder o r5 r7 (r2 - (1 : Int32)) w) fun r8 => Option.bind (f_J6_bitCount_0f7a4 r8 w) fun r10 => (f_X10_seasons_L49 o v1 v3 w n) r6 (v5 + r10) (v6 ||| r8) (v7 + (1 : Int32)))
set_option maxRecDepth 100000 in
set_option maxHeartbeats 4000000 in
theorem e_X10_seasons_L49 {X : mXs} {r : Option mV} {w' : mW} (P : (Int32 × Int32 × Int32) → Prop) (o : Nat) (v1 : Int32) (v3 : Int32) (w : mW) (hexit : ∀ y, P y → mEv X M_X10_seasons 4 r w' 137 [none, none, none, some (vi v3), some (vi y.1), some (vi y.2.1), some (vi y.2.2), none, none, none, none] [] w) : ∀ (n : Nat) (v4 : Int32) (v5 : Int32) (v6 : Int32) (v7 : Int32) (e : Int32 × Int32 × Int32), f_X10_seasons_L49 o v1 v3 w n v4 v5 v6 v7 = some e → P e → mEv X M_X10_seasons 4 r w' 49 [some (vr ((some o))), some (vi v1), none, some (vi v3), some (vi v4), some (vi v5), some (vi v6), some (vi v7), none, none, none] [] w := by
  intro n
  induction n with
  | zero =>
    intro v4 v5 v6 v7 e h hP
    rw [f_X10_seasons_L49] at h
    cases h
  | succ n hk =>
    intro v4 v5 v6 v7 e h hP
    rw [f_X10_seasons_L49] at h
    refine ev_iload (q := 51) dX10_seasons_49 rfl rfl ?_
    refine ev_iload_n (q := 52) dX10_seasons_51 rfl rfl ?_
    by_cases hc : v1 ≤ v7
    · rw [if_pos hc] at h
      refine ev_icmp_ge_t (q := 137) dX10_seasons_52 (by decide) hc ?_
      cases h
      exact ev_weak _ (mLe_none (mLe_none (mLe_none (mLe_some (mLe_some (mLe_some (mLe_some (mLe_none (mLe_none (mLe_none (mLe_none mLe_nil))))))))))) (hexit _ hP)
    · rw [if_neg hc] at h
      refine ev_icmp_ge_f (q := 55) (t0 := 137) dX10_seasons_52 (by decide) rfl hc ?_
      refine ev_iload (q := 57) dX10_seasons_55 rfl rfl ?_
      replace h := Option.bind_eq_some_iff.mp h; obtain ⟨r1, hr1, h⟩ := h
      refine ev_invS (M1 := M_X10_nextSeed) (as := [vi v4]) dX10_seasons_57 rfl tw_645 cal_X10_nextSeed tw_646 (by decide) rfl rfl (Nat.le_of_ble_eq_true rfl) (met_X10_nextSeed v4 w _ hr1) ?_
      refine ev_istore (q := 62) dX10_seasons_60 rfl (by decide) ?_
      refine ev_iload (q := 64) dX10_seasons_62 rfl rfl ?_
      refine ev_iconst (q := 65) (v := (3 : Int32)) dX10_seasons_64 rfl (by decide) ?_
      replace h := Option.bind_eq_some_iff.mp h; obtain ⟨r2, hr2, h⟩ := h
      refine ev_invS (M1 := M_X10_draw) (as := [vi r1, vi ((3 : Int32))]) dX10_seasons_65 rfl tw_651 cal_X10_draw tw_652 (by decide) rfl rfl (Nat.le_of_ble_eq_true rfl) (met_X10_draw r1 (3 : Int32) w _ hr2) ?_
      refine ev_iconst (q := 69) (v := (1 : Int32)) dX10_seasons_68 rfl (by decide) ?_
      refine ev_isub (q := 70) dX10_seasons_69 rfl ?_
      refine ev_istore (q := 72) dX10_seasons_70 rfl (by decide) ?_
      refine ev_iload (q := 74) dX10_seasons_72 rfl rfl ?_
      replace h := Option.bind_eq_some_iff.mp h; obtain ⟨r3, hr3, h⟩ := h
      refine ev_invS (M1 := M_X10_nextSeed) (as := [vi r1]) dX10_seasons_74 rfl tw_645 cal_X10_nextSeed tw_646 (by decide) rfl rfl (Nat.le_of_ble_eq_true rfl) (met_X10_nextSeed r1 w _ hr3) ?_
      refine ev_istore (q := 79) dX10_seasons_77 rfl (by decide) ?_
      refine ev_iload (q := 81) dX10_seasons_79 rfl rfl ?_
      refine ev_aload_n (q := 82) dX10_seasons_81 rfl rfl ?_
      replace h := Option.bind_eq_some_iff.mp h; obtain ⟨r4, hr4, h⟩ := h
      refine ev_gI dX10_seasons_82 fl_X10_197 hr4 rfl ?_
      replace h := Option.bind_eq_some_iff.mp h; obtain ⟨r5, hr5, h⟩ := h
      refine ev_invS (M1 := M_X10_draw) (as := [vi r3, vi r4]) dX10_seasons_85 rfl tw_651 cal_X10_draw tw_652 (by decide) rfl rfl (Nat.le_of_ble_eq_true rfl) (met_X10_draw r3 r4 w _ hr5) ?_
      refine ev_istore (q := 90) dX10_seasons_88 rfl (by decide) ?_
      refine ev_iload (q := 92) dX10_seasons_90 rfl rfl ?_
      replace h := Option.bind_eq_some_iff.mp h; obtain ⟨r6, hr6, h⟩ := h
      refine ev_invS (M1 := M_X10_nextSeed) (as := [vi r3]) dX10_seasons_92 rfl tw_645 cal_X10_nextSeed tw_646 (by decide) rfl rfl (Nat.le_of_ble_eq_true rfl) (met_X10_nextSeed r3 w _ hr6) ?_
      refine ev_istore (q := 97) dX10_seasons_95 rfl (by decide) ?_
      refine ev_aload_n (q := 98) dX10_seasons_97 rfl rfl ?_
      refine ev_iload (q := 100) dX10_seasons_98 rfl rfl ?_
      refine ev_iload (q := 102) dX10_seasons_100 rfl rfl ?_
      refine ev_bipush (q := 104) (v := (36 : Int32)) dX10_seasons_102 rfl (by decide) ?_
      replace h := Option.bind_eq_some_iff.mp h; obtain ⟨r7, hr7, h⟩ := h
      refine ev_invS (M1 := M_X10_draw) (as := [vi r6, vi ((36 : Int32))]) dX10_seasons_104 rfl tw_651 cal_X10_draw tw_652 (by decide) rfl rfl (Nat.le_of_ble_eq_true rfl) (met_X10_draw r6 (36 : Int32) w _ hr7) ?_
      refine ev_iload (q := 109) dX10_seasons_107 rfl rfl ?_
      replace h := Option.bind_eq_some_iff.mp h; obtain ⟨q9, hq9, h⟩ := h
      obtain ⟨hxq9, fsq9, hkq9⟩ := kO_spec hq9
      cases hxq9
      replace h := Option.bind_eq_some_iff.mp h; obtain ⟨r8, hr8, h⟩ := h
      refine ev_invV (M1 := M_X10_crowdUnder) (as := [vi r5, vi r7, vi (r2 - (1 : Int32))]) (fs := fsq9) (ci := 10) dX10_seasons_109 rfl tw_548 cal_X10_crowdUnder tw_550 tw_18 (by decide) rfl rfl (Nat.le_of_ble_eq_true rfl) hkq9 rfl (met_X10_crowdUnder o r5 r7 (r2 - (1 : Int32)) w _ hr8) ?_
      refine ev_istore (q := 114) dX10_seasons_112 rfl (by decide) ?_
      refine ev_iload (q := 116) dX10_seasons_114 rfl rfl ?_
      refine ev_iload (q := 118) dX10_seasons_116 rfl rfl ?_
      replace h := Option.bind_eq_some_iff.mp h; obtain ⟨r10, hr10, h⟩ := h
      refine ev_invS (M1 := M_J6_bitCount_0f7a4) (as := [vi r8]) dX10_seasons_118 rfl tw_552 cal_J6_bitCount_0f7a4 tw_553 (by decide) rfl rfl (Nat.le_of_ble_eq_true rfl) (met_J6_bitCount_0f7a4 r8 w _ hr10) ?_
      refine ev_iadd (q := 122) dX10_seasons_121 rfl ?_
      refine ev_istore (q := 124) dX10_seasons_122 rfl (by decide) ?_
      refine ev_iload (q := 126) dX10_seasons_124 rfl rfl ?_
      refine ev_iload (q := 128) dX10_seasons_126 rfl rfl ?_
      refine ev_ior (q := 129) dX10_seasons_128 rfl ?_
      refine ev_istore (q := 131) dX10_seasons_129 rfl (by decide) ?_
      refine ev_iinc (q := 134) (v := v7 + (1 : Int32)) dX10_seasons_131 rfl (by decide) rfl (by rfl) ?_
      refine ev_goto (q := 49) dX10_seasons_134 (by decide) ?_
      exact ev_weak _ (mLe_some (mLe_some (mLe_none (mLe_some (mLe_some (mLe_some (mLe_some (mLe_some (mLe_none (mLe_none (mLe_none mLe_nil))))))))))) (hk r6 (v5 + r10) (v6 ||| r8) (v7 + (1 : Int32)) _ h hP)
def f_X10_seasons_J24 (w : mW) : Option (Int32) := some ((-102 : Int32))
set_option maxRecDepth 100000 in
set_option maxHeartbeats 4000000 in
theorem e_X10_seasons_J24 {X : mXs} (w : mW) (res : Int32) (h : f_X10_seasons_J24 w = some res) : mEv X M_X10_seasons 4 (some (vi res)) w 24 [none, none, none, none, none, none, none, none, none, none, none] [] w := by
  unfold f_X10_seasons_J24 at h
  refine ev_bipush (q := 26) (v := (-102 : Int32)) dX10_seasons_24 rfl (by decide) ?_
  cases h
  exact ev_iret dX10_seasons_26 rfl rfl
def f_X10_seasons (o : Nat) (v1 : Int32) (v2 : Int32) (v3 : Int32) (w : mW) : Option (Int32) := if v1 < (1 : Int32) then (f_X10_seasons_J24 w) else (if (60 : Int32) < v1 then (f_X10_seasons_J24 w) else (if v2 < 0 then (f_X10_seasons_J24 w) else (if v3 < 0 then (f_X10_seasons_J24 w) else (if v3 ≤ (2 : Int32) then (Option.bind (kO w (some o) 10) fun _ => Option.bind (f_X10_hasPort o  w) fun r11 => if r11 = 0 then (some ((-103 : Int32))) else (Option.bind (f_X10_seasons_L49 o v1 v3 w mFuel v2 (0 : Int32) (0 : Int32) (0 : Int32)) fun e13 => if v3 = (2 : Int32) then (some (e13.1)) else (if v3 = 0 then (f_X10_seasons_J159 e13.2.1 w) else (Option.bind (f_J6_bitCount_0f7a4 e13.2.2 w) fun r14 => f_X10_seasons_J159 r14 w)))) else (f_X10_seasons_J24 w)))))
set_option maxRecDepth 100000 in
set_option maxHeartbeats 4000000 in
theorem met_X10_seasons (o : Nat) (v1 : Int32) (v2 : Int32) (v3 : Int32) (w : mW) (res : Int32) (h : f_X10_seasons o v1 v2 v3 w = some res) : mMet M_X10_seasons 4 [vr ((some o)), vi v1, vi v2, vi v3] w (some (vi res)) w := by
  refine ev_met (n := 7) (by decide) rfl fun X => ?_
  unfold f_X10_seasons at h
  show mEv X M_X10_seasons 4 _ _ 0 [some (vr ((some o))), some (vi v1), some (vi v2), some (vi v3), none, none, none, none, none, none, none] [] w
  refine ev_iload_n (q := 1) dX10_seasons_0 rfl rfl ?_
  refine ev_iconst (q := 2) (v := (1 : Int32)) dX10_seasons_1 rfl (by decide) ?_
  by_cases hc : v1 < (1 : Int32)
  · rw [if_pos hc] at h
    refine ev_icmp_lt_t (q := 24) dX10_seasons_2 (by decide) hc ?_
    exact ev_weak _ (mLe_none (mLe_none (mLe_none (mLe_none (mLe_none (mLe_none (mLe_none (mLe_none (mLe_none (mLe_none (mLe_none mLe_nil))))))))))) (e_X10_seasons_J24 w _ h)
  · rw [if_neg hc] at h
    refine ev_icmp_lt_f (q := 5) (t0 := 24) dX10_seasons_2 (by decide) rfl hc ?_
    refine ev_iload_n (q := 6) dX10_seasons_5 rfl rfl ?_
    refine ev_bipush (q := 8) (v := (60 : Int32)) dX10_seasons_6 rfl (by decide) ?_
    by_cases hc : (60 : Int32) < v1
    · rw [if_pos hc] at h
      refine ev_icmp_gt_t (q := 24) dX10_seasons_8 (by decide) hc ?_
      exact ev_weak _ (mLe_none (mLe_none (mLe_none (mLe_none (mLe_none (mLe_none (mLe_none (mLe_none (mLe_none (mLe_none (mLe_none mLe_nil))))))))))) (e_X10_seasons_J24 w _ h)
    · rw [if_neg hc] at h
      refine ev_icmp_gt_f (q := 11) (t0 := 24) dX10_seasons_8 (by decide) rfl hc ?_
      refine ev_iload_n (q := 12) dX10_seasons_11 rfl rfl ?_
      by_cases hc : v2 < 0
      · rw [if_pos hc] at h
        refine ev_if_lt_t (q := 24) dX10_seasons_12 (by decide) hc ?_
        exact ev_weak _ (mLe_none (mLe_none (mLe_none (mLe_none (mLe_none (mLe_none (mLe_none (mLe_none (mLe_none (mLe_none (mLe_none mLe_nil))))))))))) (e_X10_seasons_J24 w _ h)
      · rw [if_neg hc] at h
        refine ev_if_lt_f (q := 15) (t0 := 24) dX10_seasons_12 (by decide) rfl hc ?_
        refine ev_iload_n (q := 16) dX10_seasons_15 rfl rfl ?_
        by_cases hc : v3 < 0
        · rw [if_pos hc] at h
          refine ev_if_lt_t (q := 24) dX10_seasons_16 (by decide) hc ?_
          exact ev_weak _ (mLe_none (mLe_none (mLe_none (mLe_none (mLe_none (mLe_none (mLe_none (mLe_none (mLe_none (mLe_none (mLe_none mLe_nil))))))))))) (e_X10_seasons_J24 w _ h)
        · rw [if_neg hc] at h
          refine ev_if_lt_f (q := 19) (t0 := 24) dX10_seasons_16 (by decide) rfl hc ?_
          refine ev_iload_n (q := 20) dX10_seasons_19 rfl rfl ?_
          refine ev_iconst (q := 21) (v := (2 : Int32)) dX10_seasons_20 rfl (by decide) ?_
          by_cases hc : v3 ≤ (2 : Int32)
          · rw [if_pos hc] at h
            refine ev_icmp_le_t (q := 27) dX10_seasons_21 (by decide) hc ?_
            refine ev_aload_n (q := 28) dX10_seasons_27 rfl rfl ?_
            replace h := Option.bind_eq_some_iff.mp h; obtain ⟨q12, hq12, h⟩ := h
            obtain ⟨hxq12, fsq12, hkq12⟩ := kO_spec hq12
            cases hxq12
            replace h := Option.bind_eq_some_iff.mp h; obtain ⟨r11, hr11, h⟩ := h
            refine ev_invV (M1 := M_X10_hasPort) (as := []) (fs := fsq12) (ci := 10) dX10_seasons_28 rfl tw_600 cal_X10_hasPort tw_602 tw_22 (by decide) rfl rfl (Nat.le_of_ble_eq_true rfl) hkq12 rfl (met_X10_hasPort o  w _ hr11) ?_
            by_cases hc : r11 = 0
            · rw [if_pos hc] at h
              refine ev_if_ne_f (q := 34) (t0 := 37) dX10_seasons_31 (by decide) rfl hc ?_
              refine ev_bipush (q := 36) (v := (-103 : Int32)) dX10_seasons_34 rfl (by decide) ?_
              cases h
              exact ev_iret dX10_seasons_36 rfl rfl
            · rw [if_neg hc] at h
              refine ev_if_ne_t (q := 37) dX10_seasons_31 (by decide) hc ?_
              refine ev_iload_n (q := 38) dX10_seasons_37 rfl rfl ?_
              refine ev_istore (q := 40) dX10_seasons_38 rfl (by decide) ?_
              refine ev_iconst (q := 41) (v := (0 : Int32)) dX10_seasons_40 rfl (by decide) ?_
              refine ev_istore (q := 43) dX10_seasons_41 rfl (by decide) ?_
              refine ev_iconst (q := 44) (v := (0 : Int32)) dX10_seasons_43 rfl (by decide) ?_
              refine ev_istore (q := 46) dX10_seasons_44 rfl (by decide) ?_
              refine ev_iconst (q := 47) (v := (0 : Int32)) dX10_seasons_46 rfl (by decide) ?_
              refine ev_istore (q := 49) dX10_seasons_47 rfl (by decide) ?_
              replace h := Option.bind_eq_some_iff.mp h; obtain ⟨e13, he13, h⟩ := h
              refine ev_weak _ (mLe_some (mLe_some (mLe_none (mLe_some (mLe_some (mLe_some (mLe_some (mLe_some (mLe_none (mLe_none (mLe_none mLe_nil))))))))))) (e_X10_seasons_L49 (fun z => e13 = z) o v1 v3 w (fun e13q hq => ?_) mFuel v2 (0 : Int32) (0 : Int32) (0 : Int32) _ he13 rfl)
              subst hq
              refine ev_iload_n (q := 138) dX10_seasons_137 rfl rfl ?_
              refine ev_iconst (q := 139) (v := (2 : Int32)) dX10_seasons_138 rfl (by decide) ?_
              by_cases hc : v3 = (2 : Int32)
              · rw [if_pos hc] at h
                refine ev_icmp_ne_f (q := 142) (t0 := 145) dX10_seasons_139 (by decide) rfl hc ?_
                refine ev_iload (q := 144) dX10_seasons_142 rfl rfl ?_
                cases h
                exact ev_iret dX10_seasons_144 rfl rfl
              · rw [if_neg hc] at h
                refine ev_icmp_ne_t (q := 145) dX10_seasons_139 (by decide) hc ?_
                refine ev_iload_n (q := 146) dX10_seasons_145 rfl rfl ?_
                by_cases hc : v3 = 0
                · rw [if_pos hc] at h
                  refine ev_if_ne_f (q := 149) (t0 := 154) dX10_seasons_146 (by decide) rfl hc ?_
                  refine ev_iload (q := 151) dX10_seasons_149 rfl rfl ?_
                  refine ev_goto (q := 159) dX10_seasons_151 (by decide) ?_
                  exact ev_weak _ (mLe_none (mLe_none (mLe_none (mLe_none (mLe_none (mLe_none (mLe_none (mLe_none (mLe_none (mLe_none (mLe_none mLe_nil))))))))))) (e_X10_seasons_J159 e13.2.1 w _ h)
                · rw [if_neg hc] at h
                  refine ev_if_ne_t (q := 154) dX10_seasons_146 (by decide) hc ?_
                  refine ev_iload (q := 156) dX10_seasons_154 rfl rfl ?_
                  replace h := Option.bind_eq_some_iff.mp h; obtain ⟨r14, hr14, h⟩ := h
                  refine ev_invS (M1 := M_J6_bitCount_0f7a4) (as := [vi e13.2.2]) dX10_seasons_156 rfl tw_552 cal_J6_bitCount_0f7a4 tw_553 (by decide) rfl rfl (Nat.le_of_ble_eq_true rfl) (met_J6_bitCount_0f7a4 e13.2.2 w _ hr14) ?_
                  exact ev_weak _ (mLe_none (mLe_none (mLe_none (mLe_none (mLe_none (mLe_none (mLe_none (mLe_none (mLe_none (mLe_none (mLe_none mLe_nil))))))))))) (e_X10_seasons_J159 r14 w _ h)
          · rw [if_neg hc] at h
            refine ev_icmp_le_f (q := 24) (t0 := 27) dX10_seasons_21 (by decide) rfl hc ?_
            exact ev_weak _ (mLe_none (mLe_none (mLe_none (mLe_none (mLe_none (mLe_none (mLe_none (mLe_none (mLe_none (mLe_none (mLe_none mLe_nil))))))))))) (e_X10_seasons_J24 w _ h)
def f_X10_toss_J18 (w : mW) : Option (Int32 × mW) := some (((-101 : Int32), w))
set_option maxRecDepth 100000 in
set_option maxHeartbeats 4000000 in
theorem e_X10_toss_J18 {X : mXs} (w : mW) (res : Int32 × mW) (h : f_X10_toss_J18 w = some res) : mEv X M_X10_toss 4 (some (vi res.1)) res.2 18 [none, none, none, none, none] [] w := by
  unfold f_X10_toss_J18 at h
  refine ev_bipush (q := 20) (v := (-101 : Int32)) dX10_toss_18 rfl (by decide) ?_
  cases h
  exact ev_iret dX10_toss_20 rfl rfl
def f_X10_toss (o : Nat) (v1 : Int32) (v2 : Int32) (w : mW) : Option (Int32 × mW) := Option.bind (kO w (some o) 10) fun _ => Option.bind (f_X10_tosserAt o v1 w) fun r1 => oC r1 (f_X10_toss_J18 w) (fun a3 => Option.bind (kO w (some o) 10) fun _ => Option.bind (f_X10_isCell o v2 w) fun r4 => if r4 = 0 then (f_X10_toss_J18 w) else (Option.bind (gR w (some o) 10 3) fun r6 => Option.bind (gI w r6 2 9) fun r7 => Option.bind (dv_batter (some a3)  w) fun r8 => if r8 ≤ r7 then (Option.bind (gR w (some o) 10 3) fun r9 => Option.bind (gI w r9 2 11) fun r10 => if r10 < (999 : Int32) then (Option.bind (gR w (some o) 10 3) fun r11 => Option.bind (gI w r11 2 8) fun r12 => Option.bind (kO w (some o) 10) fun _ => Option.bind (f_X10_crowdUnder o v1 v2 r12 w) fun r13 => Option.bind (gR w (some o) 10 3) fun r15 => Option.bind (gI w r15 2 7) fun r16 => Option.bind (gR w (some o) 10 3) fun r17 => Option.bind (gI w r17 2 7) fun r18 => Option.bind (pI w r17 2 7 (r18 ||| (r13 &&& (r16 ^^^ (-1 : Int32))))) fun w19 => Option.bind (gR w19 (some o) 10 3) fun r20 => Option.bind (gI w19 r20 2 9) fun r21 => Option.bind (dv_batter (some a3)  w19) fun r22 => Option.bind (pI w19 r20 2 9 (r21 - r22)) fun w23 => Option.bind (gR w23 (some o) 10 3) fun r24 => Option.bind (gI w23 r24 2 11) fun r25 => Option.bind (pI w23 r24 2 11 (r25 + (1 : Int32))) fun w26 => Option.bind (gR w26 (some o) 10 3) fun r27 => Option.bind (gR w26 r27 2 5) fun r28 => Option.bind (gR w26 (some o) 10 3) fun r29 => Option.bind (gR w26 r29 2 5) fun r30 => Option.bind (f_X10_at r30 v1 w26) fun r31 => Option.bind (f_X10_put r28 v1 (r31 + (1 : Int32)) w26) fun w32 => Option.bind (f_J6_bitCount_0f7a4 (r13 &&& (r16 ^^^ (-1 : Int32))) w32) fun r33 => some ((r33, w32))) else (some (((-104 : Int32), w)))) else (some (((-103 : Int32), w)))))
set_option maxRecDepth 100000 in
set_option maxHeartbeats 4000000 in
theorem met_X10_toss (o : Nat) (v1 : Int32) (v2 : Int32) (w : mW) (res : Int32 × mW) (h : f_X10_toss o v1 v2 w = some res) : mMet M_X10_toss 4 [vr ((some o)), vi v1, vi v2] w (some (vi res.1)) res.2 := by
  refine ev_met (n := 2) (by decide) rfl fun X => ?_
  unfold f_X10_toss at h
  show mEv X M_X10_toss 4 _ _ 0 [some (vr ((some o))), some (vi v1), some (vi v2), none, none] [] w
  refine ev_aload_n (q := 1) dX10_toss_0 rfl rfl ?_
  refine ev_iload_n (q := 2) dX10_toss_1 rfl rfl ?_
  replace h := Option.bind_eq_some_iff.mp h; obtain ⟨q2, hq2, h⟩ := h
  obtain ⟨hxq2, fsq2, hkq2⟩ := kO_spec hq2
  cases hxq2
  replace h := Option.bind_eq_some_iff.mp h; obtain ⟨r1, hr1, h⟩ := h
  refine ev_invV (M1 := M_X10_tosserAt) (as := [vi v1]) (fs := fsq2) (ci := 10) dX10_toss_2 rfl tw_461 cal_X10_tosserAt tw_463 tw_12 (by decide) rfl rfl (Nat.le_of_ble_eq_true rfl) hkq2 rfl (met_X10_tosserAt o v1 w _ hr1) ?_
  refine ev_astore_n (q := 6) dX10_toss_5 rfl (by decide) ?_
  refine ev_aload_n (q := 7) dX10_toss_6 rfl rfl ?_
  rcases r1 with _ | a3
  · dsimp only [oC] at h
    refine ev_ifnull_t (q := 18) dX10_toss_7 (by decide) ?_
    exact ev_weak _ (mLe_none (mLe_none (mLe_none (mLe_none (mLe_none mLe_nil))))) (e_X10_toss_J18 w _ h)
  · dsimp only [oC] at h
    refine ev_ifnull_f (q := 10) dX10_toss_7 rfl ?_
    refine ev_aload_n (q := 11) dX10_toss_10 rfl rfl ?_
    refine ev_iload_n (q := 12) dX10_toss_11 rfl rfl ?_
    replace h := Option.bind_eq_some_iff.mp h; obtain ⟨q5, hq5, h⟩ := h
    obtain ⟨hxq5, fsq5, hkq5⟩ := kO_spec hq5
    cases hxq5
    replace h := Option.bind_eq_some_iff.mp h; obtain ⟨r4, hr4, h⟩ := h
    refine ev_invV (M1 := M_X10_isCell) (as := [vi v2]) (fs := fsq5) (ci := 10) dX10_toss_12 rfl tw_596 cal_X10_isCell tw_598 tw_21 (by decide) rfl rfl (Nat.le_of_ble_eq_true rfl) hkq5 rfl (met_X10_isCell o v2 w _ hr4) ?_
    by_cases hc : r4 = 0
    · rw [if_pos hc] at h
      refine ev_if_ne_f (q := 18) (t0 := 21) dX10_toss_15 (by decide) rfl hc ?_
      exact ev_weak _ (mLe_none (mLe_none (mLe_none (mLe_none (mLe_none mLe_nil))))) (e_X10_toss_J18 w _ h)
    · rw [if_neg hc] at h
      refine ev_if_ne_t (q := 21) dX10_toss_15 (by decide) hc ?_
      refine ev_aload_n (q := 22) dX10_toss_21 rfl rfl ?_
      replace h := Option.bind_eq_some_iff.mp h; obtain ⟨r6, hr6, h⟩ := h
      refine ev_gR dX10_toss_22 fl_X10_32 hr6 rfl ?_
      replace h := Option.bind_eq_some_iff.mp h; obtain ⟨r7, hr7, h⟩ := h
      refine ev_gI dX10_toss_25 fl_X10_159 hr7 rfl ?_
      refine ev_aload_n (q := 29) dX10_toss_28 rfl rfl ?_
      replace h := Option.bind_eq_some_iff.mp h; obtain ⟨r8, hr8, h⟩ := h
      refine ev_dv_batter dX10_toss_29 rfl tw_523 (by decide) (Nat.le_of_ble_eq_true rfl) hr8 ?_
      by_cases hc : r8 ≤ r7
      · rw [if_pos hc] at h
        refine ev_icmp_ge_t (q := 38) dX10_toss_32 (by decide) hc ?_
        refine ev_aload_n (q := 39) dX10_toss_38 rfl rfl ?_
        replace h := Option.bind_eq_some_iff.mp h; obtain ⟨r9, hr9, h⟩ := h
        refine ev_gR dX10_toss_39 fl_X10_32 hr9 rfl ?_
        replace h := Option.bind_eq_some_iff.mp h; obtain ⟨r10, hr10, h⟩ := h
        refine ev_gI dX10_toss_42 fl_X10_161 hr10 rfl ?_
        refine ev_sipush (q := 48) (v := (999 : Int32)) dX10_toss_45 rfl (by decide) ?_
        by_cases hc : r10 < (999 : Int32)
        · rw [if_pos hc] at h
          refine ev_icmp_lt_t (q := 54) dX10_toss_48 (by decide) hc ?_
          refine ev_aload_n (q := 55) dX10_toss_54 rfl rfl ?_
          refine ev_iload_n (q := 56) dX10_toss_55 rfl rfl ?_
          refine ev_iload_n (q := 57) dX10_toss_56 rfl rfl ?_
          refine ev_aload_n (q := 58) dX10_toss_57 rfl rfl ?_
          replace h := Option.bind_eq_some_iff.mp h; obtain ⟨r11, hr11, h⟩ := h
          refine ev_gR dX10_toss_58 fl_X10_32 hr11 rfl ?_
          replace h := Option.bind_eq_some_iff.mp h; obtain ⟨r12, hr12, h⟩ := h
          refine ev_gI dX10_toss_61 fl_X10_146 hr12 rfl ?_
          replace h := Option.bind_eq_some_iff.mp h; obtain ⟨q14, hq14, h⟩ := h
          obtain ⟨hxq14, fsq14, hkq14⟩ := kO_spec hq14
          cases hxq14
          replace h := Option.bind_eq_some_iff.mp h; obtain ⟨r13, hr13, h⟩ := h
          refine ev_invV (M1 := M_X10_crowdUnder) (as := [vi v1, vi v2, vi r12]) (fs := fsq14) (ci := 10) dX10_toss_64 rfl tw_548 cal_X10_crowdUnder tw_550 tw_18 (by decide) rfl rfl (Nat.le_of_ble_eq_true rfl) hkq14 rfl (met_X10_crowdUnder o v1 v2 r12 w _ hr13) ?_
          refine ev_aload_n (q := 68) dX10_toss_67 rfl rfl ?_
          replace h := Option.bind_eq_some_iff.mp h; obtain ⟨r15, hr15, h⟩ := h
          refine ev_gR dX10_toss_68 fl_X10_32 hr15 rfl ?_
          replace h := Option.bind_eq_some_iff.mp h; obtain ⟨r16, hr16, h⟩ := h
          refine ev_gI dX10_toss_71 fl_X10_86 hr16 rfl ?_
          refine ev_iconst (q := 75) (v := (-1 : Int32)) dX10_toss_74 rfl (by decide) ?_
          refine ev_ixor (q := 76) dX10_toss_75 rfl ?_
          refine ev_iand (q := 77) dX10_toss_76 rfl ?_
          refine ev_istore (q := 79) dX10_toss_77 rfl (by decide) ?_
          refine ev_aload_n (q := 80) dX10_toss_79 rfl rfl ?_
          replace h := Option.bind_eq_some_iff.mp h; obtain ⟨r17, hr17, h⟩ := h
          refine ev_gR dX10_toss_80 fl_X10_32 hr17 rfl ?_
          refine ev_dup (q := 84) dX10_toss_83 rfl rfl ?_
          replace h := Option.bind_eq_some_iff.mp h; obtain ⟨r18, hr18, h⟩ := h
          refine ev_gI dX10_toss_84 fl_X10_86 hr18 rfl ?_
          refine ev_iload (q := 89) dX10_toss_87 rfl rfl ?_
          refine ev_ior (q := 90) dX10_toss_89 rfl ?_
          replace h := Option.bind_eq_some_iff.mp h; obtain ⟨w19, hw19, h⟩ := h
          refine ev_pI dX10_toss_90 fp_X10_86 hw19 rfl ?_
          refine ev_aload_n (q := 94) dX10_toss_93 rfl rfl ?_
          replace h := Option.bind_eq_some_iff.mp h; obtain ⟨r20, hr20, h⟩ := h
          refine ev_gR dX10_toss_94 fl_X10_32 hr20 rfl ?_
          refine ev_dup (q := 98) dX10_toss_97 rfl rfl ?_
          replace h := Option.bind_eq_some_iff.mp h; obtain ⟨r21, hr21, h⟩ := h
          refine ev_gI dX10_toss_98 fl_X10_159 hr21 rfl ?_
          refine ev_aload_n (q := 102) dX10_toss_101 rfl rfl ?_
          replace h := Option.bind_eq_some_iff.mp h; obtain ⟨r22, hr22, h⟩ := h
          refine ev_dv_batter dX10_toss_102 rfl tw_523 (by decide) (Nat.le_of_ble_eq_true rfl) hr22 ?_
          refine ev_isub (q := 106) dX10_toss_105 rfl ?_
          replace h := Option.bind_eq_some_iff.mp h; obtain ⟨w23, hw23, h⟩ := h
          refine ev_pI dX10_toss_106 fp_X10_159 hw23 rfl ?_
          refine ev_aload_n (q := 110) dX10_toss_109 rfl rfl ?_
          replace h := Option.bind_eq_some_iff.mp h; obtain ⟨r24, hr24, h⟩ := h
          refine ev_gR dX10_toss_110 fl_X10_32 hr24 rfl ?_
          refine ev_dup (q := 114) dX10_toss_113 rfl rfl ?_
          replace h := Option.bind_eq_some_iff.mp h; obtain ⟨r25, hr25, h⟩ := h
          refine ev_gI dX10_toss_114 fl_X10_161 hr25 rfl ?_
          refine ev_iconst (q := 118) (v := (1 : Int32)) dX10_toss_117 rfl (by decide) ?_
          refine ev_iadd (q := 119) dX10_toss_118 rfl ?_
          replace h := Option.bind_eq_some_iff.mp h; obtain ⟨w26, hw26, h⟩ := h
          refine ev_pI dX10_toss_119 fp_X10_161 hw26 rfl ?_
          refine ev_aload_n (q := 123) dX10_toss_122 rfl rfl ?_
          replace h := Option.bind_eq_some_iff.mp h; obtain ⟨r27, hr27, h⟩ := h
          refine ev_gR dX10_toss_123 fl_X10_32 hr27 rfl ?_
          replace h := Option.bind_eq_some_iff.mp h; obtain ⟨r28, hr28, h⟩ := h
          refine ev_gR dX10_toss_126 fl_X10_135 hr28 rfl ?_
          refine ev_iload_n (q := 130) dX10_toss_129 rfl rfl ?_
          refine ev_aload_n (q := 131) dX10_toss_130 rfl rfl ?_
          replace h := Option.bind_eq_some_iff.mp h; obtain ⟨r29, hr29, h⟩ := h
          refine ev_gR dX10_toss_131 fl_X10_32 hr29 rfl ?_
          replace h := Option.bind_eq_some_iff.mp h; obtain ⟨r30, hr30, h⟩ := h
          refine ev_gR dX10_toss_134 fl_X10_135 hr30 rfl ?_
          refine ev_iload_n (q := 138) dX10_toss_137 rfl rfl ?_
          replace h := Option.bind_eq_some_iff.mp h; obtain ⟨r31, hr31, h⟩ := h
          refine ev_invS (M1 := M_X10_at) (as := [vr r30, vi v1]) dX10_toss_138 rfl tw_406 cal_X10_at tw_252 (by decide) rfl rfl (Nat.le_of_ble_eq_true rfl) (met_X10_at r30 v1 w26 _ hr31) ?_
          refine ev_iconst (q := 142) (v := (1 : Int32)) dX10_toss_141 rfl (by decide) ?_
          refine ev_iadd (q := 143) dX10_toss_142 rfl ?_
          replace h := Option.bind_eq_some_iff.mp h; obtain ⟨w32, hw32, h⟩ := h
          refine ev_invS (M1 := M_X10_put) (as := [vr r28, vi v1, vi (r31 + (1 : Int32))]) dX10_toss_143 rfl tw_402 cal_X10_put tw_270 (by decide) rfl rfl (Nat.le_of_ble_eq_true rfl) (met_X10_put r28 v1 (r31 + (1 : Int32)) w26 _ hw32) ?_
          refine ev_iload (q := 148) dX10_toss_146 rfl rfl ?_
          replace h := Option.bind_eq_some_iff.mp h; obtain ⟨r33, hr33, h⟩ := h
          refine ev_invS (M1 := M_J6_bitCount_0f7a4) (as := [vi (r13 &&& (r16 ^^^ (-1 : Int32)))]) dX10_toss_148 rfl tw_552 cal_J6_bitCount_0f7a4 tw_553 (by decide) rfl rfl (Nat.le_of_ble_eq_true rfl) (met_J6_bitCount_0f7a4 (r13 &&& (r16 ^^^ (-1 : Int32))) w32 _ hr33) ?_
          cases h
          exact ev_iret dX10_toss_151 rfl rfl
        · rw [if_neg hc] at h
          refine ev_icmp_lt_f (q := 51) (t0 := 54) dX10_toss_48 (by decide) rfl hc ?_
          refine ev_bipush (q := 53) (v := (-104 : Int32)) dX10_toss_51 rfl (by decide) ?_
          cases h
          exact ev_iret dX10_toss_53 rfl rfl
      · rw [if_neg hc] at h
        refine ev_icmp_ge_f (q := 35) (t0 := 38) dX10_toss_32 (by decide) rfl hc ?_
        refine ev_bipush (q := 37) (v := (-103 : Int32)) dX10_toss_35 rfl (by decide) ?_
        cases h
        exact ev_iret dX10_toss_37 rfl rfl
def f_X10_tosserOf (v0 : Int32) (w : mW) : Option (Option Nat × mW) := if v0 = 1 then (Option.bind (some (w ++ [.inl (0, new_X0)])) fun w1 => Option.bind (f_X0_init w.length  w1) fun r2 => some (((some w.length), w1))) else (if v0 = 2 then (Option.bind (some (w ++ [.inl (9, new_X9)])) fun w3 => Option.bind (f_X9_init w.length  w3) fun r4 => some (((some w.length), w3))) else (if v0 = 3 then (Option.bind (some (w ++ [.inl (7, new_X7)])) fun w5 => Option.bind (f_X7_init w.length  w5) fun r6 => some (((some w.length), w5))) else (if v0 = 4 then (Option.bind (some (w ++ [.inl (1, new_X1)])) fun w7 => Option.bind (f_X1_init w.length  w7) fun r8 => some (((some w.length), w7))) else (Option.bind (some (w ++ [.inl (8, new_X8)])) fun w9 => Option.bind (f_X8_init w.length  w9) fun r10 => some (((some w.length), w9))))))
set_option maxRecDepth 100000 in
set_option maxHeartbeats 4000000 in
theorem met_X10_tosserOf (v0 : Int32) (w : mW) (res : Option Nat × mW) (h : f_X10_tosserOf v0 w = some res) : mMet M_X10_tosserOf 4 [vi v0] w (some (vr res.1)) res.2 := by
  refine ev_met (n := 0) (by decide) rfl fun X => ?_
  unfold f_X10_tosserOf at h
  show mEv X M_X10_tosserOf 4 _ _ 0 [some (vi v0)] [] w
  refine ev_iload_n (q := 1) dX10_tosserOf_0 rfl rfl ?_
  by_cases hc1 : v0 = 1
  · rw [if_pos hc1] at h
    refine ev_table_in (q := 32) (off := 31) dX10_tosserOf_1 (by rw [hc1]; decide) (by rw [hc1]; decide) (by rw [hc1]; rfl) (by decide) ?_
    replace h := Option.bind_eq_some_iff.mp h; obtain ⟨w1, hw1, h⟩ := h
    cases hw1
    refine ev_new (ci := 0) (fs := new_X0) tyX0 dX10_tosserOf_32 rfl rfl inm_X0 tyX0_ok tw_410 tw_411 tw_38 rfl new_X0_ok ?_
    refine ev_dup (q := 36) dX10_tosserOf_35 rfl rfl ?_
    replace h := Option.bind_eq_some_iff.mp h; obtain ⟨r2, hr2, h⟩ := h
    refine ev_invIN (M1 := M_X0_init) (as := []) dX10_tosserOf_36 rfl tw_412 cal_X0_init tw_413 rfl rfl (by decide) rfl rfl (Nat.le_of_ble_eq_true rfl) (met_X0_init w.length  (w ++ [.inl (0, new_X0)]) _ hr2) ?_
    cases h
    exact ev_aret dX10_tosserOf_39 rfl
  · rw [if_neg hc1] at h
    by_cases hc2 : v0 = 2
    · rw [if_pos hc2] at h
      refine ev_table_in (q := 40) (off := 39) dX10_tosserOf_1 (by rw [hc2]; decide) (by rw [hc2]; decide) (by rw [hc2]; rfl) (by decide) ?_
      replace h := Option.bind_eq_some_iff.mp h; obtain ⟨w3, hw3, h⟩ := h
      cases hw3
      refine ev_new (ci := 9) (fs := new_X9) tyX9 dX10_tosserOf_40 rfl rfl inm_X9 tyX9_ok tw_420 tw_421 tw_39 rfl new_X9_ok ?_
      refine ev_dup (q := 44) dX10_tosserOf_43 rfl rfl ?_
      replace h := Option.bind_eq_some_iff.mp h; obtain ⟨r4, hr4, h⟩ := h
      refine ev_invIN (M1 := M_X9_init) (as := []) dX10_tosserOf_44 rfl tw_422 cal_X9_init tw_423 rfl rfl (by decide) rfl rfl (Nat.le_of_ble_eq_true rfl) (met_X9_init w.length  (w ++ [.inl (9, new_X9)]) _ hr4) ?_
      cases h
      exact ev_aret dX10_tosserOf_47 rfl
    · rw [if_neg hc2] at h
      by_cases hc3 : v0 = 3
      · rw [if_pos hc3] at h
        refine ev_table_in (q := 48) (off := 47) dX10_tosserOf_1 (by rw [hc3]; decide) (by rw [hc3]; decide) (by rw [hc3]; rfl) (by decide) ?_
        replace h := Option.bind_eq_some_iff.mp h; obtain ⟨w5, hw5, h⟩ := h
        cases hw5
        refine ev_new (ci := 7) (fs := new_X7) tyX7 dX10_tosserOf_48 rfl rfl inm_X7 tyX7_ok tw_427 tw_428 tw_40 rfl new_X7_ok ?_
        refine ev_dup (q := 52) dX10_tosserOf_51 rfl rfl ?_
        replace h := Option.bind_eq_some_iff.mp h; obtain ⟨r6, hr6, h⟩ := h
        refine ev_invIN (M1 := M_X7_init) (as := []) dX10_tosserOf_52 rfl tw_429 cal_X7_init tw_430 rfl rfl (by decide) rfl rfl (Nat.le_of_ble_eq_true rfl) (met_X7_init w.length  (w ++ [.inl (7, new_X7)]) _ hr6) ?_
        cases h
        exact ev_aret dX10_tosserOf_55 rfl
      · rw [if_neg hc3] at h
        by_cases hc4 : v0 = 4
        · rw [if_pos hc4] at h
          refine ev_table_in (q := 56) (off := 55) dX10_tosserOf_1 (by rw [hc4]; decide) (by rw [hc4]; decide) (by rw [hc4]; rfl) (by decide) ?_
          replace h := Option.bind_eq_some_iff.mp h; obtain ⟨w7, hw7, h⟩ := h
          cases hw7
          refine ev_new (ci := 1) (fs := new_X1) tyX1 dX10_tosserOf_56 rfl rfl inm_X1 tyX1_ok tw_434 tw_435 tw_41 rfl new_X1_ok ?_
          refine ev_dup (q := 60) dX10_tosserOf_59 rfl rfl ?_
          replace h := Option.bind_eq_some_iff.mp h; obtain ⟨r8, hr8, h⟩ := h
          refine ev_invIN (M1 := M_X1_init) (as := []) dX10_tosserOf_60 rfl tw_436 cal_X1_init tw_437 rfl rfl (by decide) rfl rfl (Nat.le_of_ble_eq_true rfl) (met_X1_init w.length  (w ++ [.inl (1, new_X1)]) _ hr8) ?_
          cases h
          exact ev_aret dX10_tosserOf_63 rfl
        · rw [if_neg hc4] at h
          refine ev_table_out (q := 64) dX10_tosserOf_1 (by have z1 := mNe (z := 1) (by decide) hc1; have z2 := mNe (z := 2) (by decide) hc2; have z3 := mNe (z := 3) (by decide) hc3; have z4 := mNe (z := 4) (by decide) hc4; omega) (by decide) ?_
          replace h := Option.bind_eq_some_iff.mp h; obtain ⟨w9, hw9, h⟩ := h
          cases hw9
          refine ev_new (ci := 8) (fs := new_X8) tyX8 dX10_tosserOf_64 rfl rfl inm_X8 tyX8_ok tw_105 tw_441 tw_37 rfl new_X8_ok ?_
          refine ev_dup (q := 68) dX10_tosserOf_67 rfl rfl ?_
          replace h := Option.bind_eq_some_iff.mp h; obtain ⟨r10, hr10, h⟩ := h
          refine ev_invIN (M1 := M_X8_init) (as := []) dX10_tosserOf_68 rfl tw_442 cal_X8_init tw_416 rfl rfl (by decide) rfl rfl (Nat.le_of_ble_eq_true rfl) (met_X8_init w.length  (w ++ [.inl (8, new_X8)]) _ hr10) ?_
          cases h
          exact ev_aret dX10_tosserOf_71 rfl
def f_X5_takesKind_J34 (s0 : Int32) (w : mW) : Option (Int32 × mW) := if s0 = 0 ∨ s0 = 1 then some ((s0, w)) else none
set_option maxRecDepth 100000 in
set_option maxHeartbeats 4000000 in
theorem e_X5_takesKind_J34 {X : mXs} (s0 : Int32) (w : mW) (res : Int32 × mW) (h : f_X5_takesKind_J34 s0 w = some res) : mEv X M_X5_takesKind 4 (some (vi res.1)) res.2 34 [none, none, none] [vi s0] w := by
  unfold f_X5_takesKind_J34 at h
  by_cases hz : s0 = 0 ∨ s0 = 1
  · rw [if_pos hz] at h
    cases h
    exact ev_zret dX5_takesKind_34 rfl hz
  · rw [if_neg hz] at h
    cases h
def f_X5_takesKind (o : Nat) (v1 : Int32) (w : mW) : Option (Int32 × mW) := Option.bind (f_J0_indexOf_0f7a4 ((v1.toUInt32 % 65536).toInt32) w) fun r1 => Option.bind (gR w (some o) 5 1) fun r2 => Option.bind (gI w (some o) 5 5) fun r3 => Option.bind (f_X10_put r2 r3 r1 w) fun w4 => Option.bind (pI w4 (some o) 5 7 (4 : Int32)) fun w5 => if r1 < 0 then (f_X5_takesKind_J34 (0 : Int32) w5) else (f_X5_takesKind_J34 (1 : Int32) w5)
set_option maxRecDepth 100000 in
set_option maxHeartbeats 4000000 in
theorem met_X5_takesKind (o : Nat) (v1 : Int32) (w : mW) (res : Int32 × mW) (h : f_X5_takesKind o v1 w = some res) : mMet M_X5_takesKind 4 [vr ((some o)), vi v1] w (some (vi res.1)) res.2 := by
  refine ev_met (n := 1) (by decide) rfl fun X => ?_
  unfold f_X5_takesKind at h
  show mEv X M_X5_takesKind 4 _ _ 0 [some (vr ((some o))), some (vi v1), none] [] w
  refine ev_ldcS rfl dX5_takesKind_0 rfl ?_
  refine ev_iload_n (q := 3) dX5_takesKind_2 rfl rfl ?_
  refine ev_i2c (q := 4) dX5_takesKind_3 rfl ?_
  replace h := Option.bind_eq_some_iff.mp h; obtain ⟨r1, hr1, h⟩ := h
  refine ev_invStr (M1 := M_J0_indexOf_0f7a4) (as := [vi ((v1.toUInt32 % 65536).toInt32)]) dX5_takesKind_4 rfl tw_281 rfl cal_J0_indexOf_0f7a4 tw_282 tw_283 (by decide) rfl rfl (Nat.le_of_ble_eq_true rfl) (met_J0_indexOf_0f7a4 ((v1.toUInt32 % 65536).toInt32) w _ hr1) ?_
  refine ev_istore_n (q := 8) dX5_takesKind_7 rfl (by decide) ?_
  refine ev_aload_n (q := 9) dX5_takesKind_8 rfl rfl ?_
  replace h := Option.bind_eq_some_iff.mp h; obtain ⟨r2, hr2, h⟩ := h
  refine ev_gR dX5_takesKind_9 fl_X5_15 hr2 rfl ?_
  refine ev_aload_n (q := 13) dX5_takesKind_12 rfl rfl ?_
  replace h := Option.bind_eq_some_iff.mp h; obtain ⟨r3, hr3, h⟩ := h
  refine ev_gI dX5_takesKind_13 fl_X5_28 hr3 rfl ?_
  refine ev_iload_n (q := 17) dX5_takesKind_16 rfl rfl ?_
  replace h := Option.bind_eq_some_iff.mp h; obtain ⟨w4, hw4, h⟩ := h
  refine ev_invSN (M1 := M_X10_put) (as := [vr r2, vi r3, vi r1]) dX5_takesKind_17 rfl tw_269 cal_X10_put tw_270 (by decide) rfl rfl (Nat.le_of_ble_eq_true rfl) (met_X10_put r2 r3 r1 w _ hw4) ?_
  refine ev_aload_n (q := 21) dX5_takesKind_20 rfl rfl ?_
  refine ev_iconst (q := 22) (v := (4 : Int32)) dX5_takesKind_21 rfl (by decide) ?_
  replace h := Option.bind_eq_some_iff.mp h; obtain ⟨w5, hw5, h⟩ := h
  refine ev_pI dX5_takesKind_22 fp_X5_31 hw5 rfl ?_
  refine ev_iload_n (q := 26) dX5_takesKind_25 rfl rfl ?_
  by_cases hc : r1 < 0
  · rw [if_pos hc] at h
    refine ev_if_lt_t (q := 33) dX5_takesKind_26 (by decide) hc ?_
    refine ev_iconst (q := 34) (v := (0 : Int32)) dX5_takesKind_33 rfl (by decide) ?_
    exact ev_weak _ (mLe_none (mLe_none (mLe_none mLe_nil))) (e_X5_takesKind_J34 (0 : Int32) w5 _ h)
  · rw [if_neg hc] at h
    refine ev_if_lt_f (q := 29) (t0 := 33) dX5_takesKind_26 (by decide) rfl hc ?_
    refine ev_iconst (q := 30) (v := (1 : Int32)) dX5_takesKind_29 rfl (by decide) ?_
    refine ev_goto (q := 34) dX5_takesKind_30 (by decide) ?_
    exact ev_weak _ (mLe_none (mLe_none (mLe_none mLe_nil))) (e_X5_takesKind_J34 (1 : Int32) w5 _ h)
def f_X10_bestAimOf_J40 (kc : Int32 → Int32 → Int32 → Option (Int32)) (o : Nat) (v1 : Int32) (v2 : Int32) (v3 : Int32) (v4 : Int32) (w : mW) : Option (Int32) := kc v2 v3 (v4 + (1 : Int32))
set_option maxRecDepth 100000 in
set_option maxHeartbeats 4000000 in
theorem e_X10_bestAimOf_J40 {X : mXs} {r : Option mV} {w' : mW} (P : (Int32) → Prop) (o : Nat) (v1 : Int32) (v2 : Int32) (v3 : Int32) (v4 : Int32) (w : mW) (kc : Int32 → Int32 → Int32 → Option (Int32)) (hk : ∀ (u2 : Int32) (u3 : Int32) (u4 : Int32) (e : Int32), kc u2 u3 u4 = some e → P e → mEv X M_X10_bestAimOf 5 r w' 12 [some (vr ((some o))), some (vi v1), some (vi u2), some (vi u3), some (vi u4), none] [] w) (e : Int32) (h : f_X10_bestAimOf_J40 kc o v1 v2 v3 v4 w = some e) (hP : P e) : mEv X M_X10_bestAimOf 5 r w' 40 [some (vr ((some o))), some (vi v1), some (vi v2), some (vi v3), some (vi v4), none] [] w := by
  unfold f_X10_bestAimOf_J40 at h
  refine ev_iinc (q := 43) (v := v4 + (1 : Int32)) dX10_bestAimOf_40 rfl (by decide) rfl (by rfl) ?_
  refine ev_goto (q := 12) dX10_bestAimOf_43 (by decide) ?_
  exact ev_weak _ (mLe_some (mLe_some (mLe_some (mLe_some (mLe_some (mLe_none mLe_nil)))))) (hk v2 v3 (v4 + (1 : Int32)) _ h hP)
def f_X10_bestAimOf_L12 (o : Nat) (v1 : Int32) (w : mW) : Nat → Int32 → Int32 → Int32 → Option (Int32)
  | 0, _, _, _ => none
  | n + 1, v2, v3, v4 => if (36 : Int32) ≤ v4 then (some (v2)) else (Option.bind (kO w (some o) 10) fun _ => Option.bind (f_X10_freshOf o v1 v4 w) fun r1 => if r1 ≤ v3 then (f_X10_bestAimOf_J40 (f_X10_bestAimOf_L12 o v1 w n) o v1 v2 v3 v4 w) else (f_X10_bestAimOf_J40 (f_X10_bestAimOf_L12 o v1 w n) o v1 v4 r1 v4 w))
set_option maxRecDepth 100000 in
set_option maxHeartbeats 4000000 in
theorem e_X10_bestAimOf_L12 {X : mXs} {r : Option mV} {w' : mW} (P : (Int32) → Prop) (o : Nat) (v1 : Int32) (w : mW) (hexit : ∀ y, P y → mEv X M_X10_bestAimOf 5 r w' 46 [none, none, some (vi y), none, none, none] [] w) : ∀ (n : Nat) (v2 : Int32) (v3 : Int32) (v4 : Int32) (e : Int32), f_X10_bestAimOf_L12 o v1 w n v2 v3 v4 = some e → P e → mEv X M_X10_bestAimOf 5 r w' 12 [some (vr ((some o))), some (vi v1), some (vi v2), some (vi v3), some (vi v4), none] [] w := by
  intro n
  induction n with
  | zero =>
    intro v2 v3 v4 e h hP
    rw [f_X10_bestAimOf_L12] at h
    cases h
  | succ n hk =>
    intro v2 v3 v4 e h hP
    rw [f_X10_bestAimOf_L12] at h
    refine ev_iload (q := 14) dX10_bestAimOf_12 rfl rfl ?_
    refine ev_bipush (q := 16) (v := (36 : Int32)) dX10_bestAimOf_14 rfl (by decide) ?_
    by_cases hc : (36 : Int32) ≤ v4
    · rw [if_pos hc] at h
      refine ev_icmp_ge_t (q := 46) dX10_bestAimOf_16 (by decide) hc ?_
      cases h
      exact ev_weak _ (mLe_none (mLe_none (mLe_some (mLe_none (mLe_none (mLe_none mLe_nil)))))) (hexit _ hP)
    · rw [if_neg hc] at h
      refine ev_icmp_ge_f (q := 19) (t0 := 46) dX10_bestAimOf_16 (by decide) rfl hc ?_
      refine ev_aload_n (q := 20) dX10_bestAimOf_19 rfl rfl ?_
      refine ev_iload_n (q := 21) dX10_bestAimOf_20 rfl rfl ?_
      refine ev_iload (q := 23) dX10_bestAimOf_21 rfl rfl ?_
      replace h := Option.bind_eq_some_iff.mp h; obtain ⟨q2, hq2, h⟩ := h
      obtain ⟨hxq2, fsq2, hkq2⟩ := kO_spec hq2
      cases hxq2
      replace h := Option.bind_eq_some_iff.mp h; obtain ⟨r1, hr1, h⟩ := h
      refine ev_invV (M1 := M_X10_freshOf) (as := [vi v1, vi v4]) (fs := fsq2) (ci := 10) dX10_bestAimOf_23 rfl tw_544 cal_X10_freshOf tw_546 tw_17 (by decide) rfl rfl (Nat.le_of_ble_eq_true rfl) hkq2 rfl (met_X10_freshOf o v1 v4 w _ hr1) ?_
      refine ev_istore (q := 28) dX10_bestAimOf_26 rfl (by decide) ?_
      refine ev_iload (q := 30) dX10_bestAimOf_28 rfl rfl ?_
      refine ev_iload_n (q := 31) dX10_bestAimOf_30 rfl rfl ?_
      by_cases hc : r1 ≤ v3
      · rw [if_pos hc] at h
        refine ev_icmp_le_t (q := 40) dX10_bestAimOf_31 (by decide) hc ?_
        exact ev_weak _ (mLe_some (mLe_some (mLe_some (mLe_some (mLe_some (mLe_none mLe_nil)))))) (e_X10_bestAimOf_J40 P o v1 v2 v3 v4 w _ hk  _ h hP)
      · rw [if_neg hc] at h
        refine ev_icmp_le_f (q := 34) (t0 := 40) dX10_bestAimOf_31 (by decide) rfl hc ?_
        refine ev_iload (q := 36) dX10_bestAimOf_34 rfl rfl ?_
        refine ev_istore_n (q := 37) dX10_bestAimOf_36 rfl (by decide) ?_
        refine ev_iload (q := 39) dX10_bestAimOf_37 rfl rfl ?_
        refine ev_istore_n (q := 40) dX10_bestAimOf_39 rfl (by decide) ?_
        exact ev_weak _ (mLe_some (mLe_some (mLe_some (mLe_some (mLe_some (mLe_none mLe_nil)))))) (e_X10_bestAimOf_J40 P o v1 v4 r1 v4 w _ hk  _ h hP)
def f_X10_bestAimOf (o : Nat) (v1 : Int32) (w : mW) : Option (Int32) := Option.bind (kO w (some o) 10) fun _ => Option.bind (f_X10_freshOf o v1 (0 : Int32) w) fun r3 => Option.bind (f_X10_bestAimOf_L12 o v1 w mFuel (0 : Int32) r3 (1 : Int32)) fun e5 => some (e5)
set_option maxRecDepth 100000 in
set_option maxHeartbeats 4000000 in
theorem met_X10_bestAimOf (o : Nat) (v1 : Int32) (w : mW) (res : Int32) (h : f_X10_bestAimOf o v1 w = some res) : mMet M_X10_bestAimOf 5 [vr ((some o)), vi v1] w (some (vi res)) w := by
  refine ev_met (n := 4) (by decide) rfl fun X => ?_
  unfold f_X10_bestAimOf at h
  show mEv X M_X10_bestAimOf 5 _ _ 0 [some (vr ((some o))), some (vi v1), none, none, none, none] [] w
  refine ev_iconst (q := 1) (v := (0 : Int32)) dX10_bestAimOf_0 rfl (by decide) ?_
  refine ev_istore_n (q := 2) dX10_bestAimOf_1 rfl (by decide) ?_
  refine ev_aload_n (q := 3) dX10_bestAimOf_2 rfl rfl ?_
  refine ev_iload_n (q := 4) dX10_bestAimOf_3 rfl rfl ?_
  refine ev_iconst (q := 5) (v := (0 : Int32)) dX10_bestAimOf_4 rfl (by decide) ?_
  replace h := Option.bind_eq_some_iff.mp h; obtain ⟨q4, hq4, h⟩ := h
  obtain ⟨hxq4, fsq4, hkq4⟩ := kO_spec hq4
  cases hxq4
  replace h := Option.bind_eq_some_iff.mp h; obtain ⟨r3, hr3, h⟩ := h
  refine ev_invV (M1 := M_X10_freshOf) (as := [vi v1, vi ((0 : Int32))]) (fs := fsq4) (ci := 10) dX10_bestAimOf_5 rfl tw_544 cal_X10_freshOf tw_546 tw_17 (by decide) rfl rfl (Nat.le_of_ble_eq_true rfl) hkq4 rfl (met_X10_freshOf o v1 (0 : Int32) w _ hr3) ?_
  refine ev_istore_n (q := 9) dX10_bestAimOf_8 rfl (by decide) ?_
  refine ev_iconst (q := 10) (v := (1 : Int32)) dX10_bestAimOf_9 rfl (by decide) ?_
  refine ev_istore (q := 12) dX10_bestAimOf_10 rfl (by decide) ?_
  replace h := Option.bind_eq_some_iff.mp h; obtain ⟨e5, he5, h⟩ := h
  refine ev_weak _ (mLe_some (mLe_some (mLe_some (mLe_some (mLe_some (mLe_none mLe_nil)))))) (e_X10_bestAimOf_L12 (fun z => e5 = z) o v1 w (fun e5q hq => ?_) mFuel (0 : Int32) r3 (1 : Int32) _ he5 rfl)
  subst hq
  refine ev_iload_n (q := 47) dX10_bestAimOf_46 rfl rfl ?_
  cases h
  exact ev_iret dX10_bestAimOf_47 rfl rfl
def f_X10_bestPlaceFor_J51 (kc : Int32 → Int32 → Int32 → Option (Int32)) (o : Nat) (v1 : Int32) (v2 : Int32) (v3 : Int32) (v4 : Int32) (w : mW) : Option (Int32) := kc v2 v3 (v4 + (1 : Int32))
set_option maxRecDepth 100000 in
set_option maxHeartbeats 4000000 in
theorem e_X10_bestPlaceFor_J51 {X : mXs} {r : Option mV} {w' : mW} (P : (Int32) → Prop) (o : Nat) (v1 : Int32) (v2 : Int32) (v3 : Int32) (v4 : Int32) (w : mW) (kc : Int32 → Int32 → Int32 → Option (Int32)) (hk : ∀ (u2 : Int32) (u3 : Int32) (u4 : Int32) (e : Int32), kc u2 u3 u4 = some e → P e → mEv X M_X10_bestPlaceFor 5 r w' 11 [some (vr ((some o))), some (vi v1), some (vi u2), some (vi u3), some (vi u4), none] [] w) (e : Int32) (h : f_X10_bestPlaceFor_J51 kc o v1 v2 v3 v4 w = some e) (hP : P e) : mEv X M_X10_bestPlaceFor 5 r w' 51 [some (vr ((some o))), some (vi v1), some (vi v2), some (vi v3), some (vi v4), none] [] w := by
  unfold f_X10_bestPlaceFor_J51 at h
  refine ev_iinc (q := 54) (v := v4 + (1 : Int32)) dX10_bestPlaceFor_51 rfl (by decide) rfl (by rfl) ?_
  refine ev_goto (q := 11) dX10_bestPlaceFor_54 (by decide) ?_
  exact ev_weak _ (mLe_some (mLe_some (mLe_some (mLe_some (mLe_some (mLe_none mLe_nil)))))) (hk v2 v3 (v4 + (1 : Int32)) _ h hP)
def f_X10_bestPlaceFor_L11 (o : Nat) (v1 : Int32) (w : mW) : Nat → Int32 → Int32 → Int32 → Option (Int32)
  | 0, _, _, _ => none
  | n + 1, v2, v3, v4 => if (36 : Int32) ≤ v4 then (some (v2)) else (Option.bind (gR w (some o) 10 6) fun r1 => Option.bind (f_X10_at r1 v4 w) fun r2 => if r2 ≤ v3 then (f_X10_bestPlaceFor_J51 (f_X10_bestPlaceFor_L11 o v1 w n) o v1 v2 v3 v4 w) else (Option.bind (kO w (some o) 10) fun _ => Option.bind (f_X10_isTakenByAnother o v4 v1 w) fun r3 => if r3 = 0 then (f_X10_bestPlaceFor_J51 (f_X10_bestPlaceFor_L11 o v1 w n) o v1 v4 r2 v4 w) else (f_X10_bestPlaceFor_J51 (f_X10_bestPlaceFor_L11 o v1 w n) o v1 v2 v3 v4 w)))
set_option maxRecDepth 100000 in
set_option maxHeartbeats 4000000 in
theorem e_X10_bestPlaceFor_L11 {X : mXs} {r : Option mV} {w' : mW} (P : (Int32) → Prop) (o : Nat) (v1 : Int32) (w : mW) (hexit : ∀ y, P y → mEv X M_X10_bestPlaceFor 5 r w' 57 [none, none, some (vi y), none, none, none] [] w) : ∀ (n : Nat) (v2 : Int32) (v3 : Int32) (v4 : Int32) (e : Int32), f_X10_bestPlaceFor_L11 o v1 w n v2 v3 v4 = some e → P e → mEv X M_X10_bestPlaceFor 5 r w' 11 [some (vr ((some o))), some (vi v1), some (vi v2), some (vi v3), some (vi v4), none] [] w := by
  intro n
  induction n with
  | zero =>
    intro v2 v3 v4 e h hP
    rw [f_X10_bestPlaceFor_L11] at h
    cases h
  | succ n hk =>
    intro v2 v3 v4 e h hP
    rw [f_X10_bestPlaceFor_L11] at h
    refine ev_iload (q := 13) dX10_bestPlaceFor_11 rfl rfl ?_
    refine ev_bipush (q := 15) (v := (36 : Int32)) dX10_bestPlaceFor_13 rfl (by decide) ?_
    by_cases hc : (36 : Int32) ≤ v4
    · rw [if_pos hc] at h
      refine ev_icmp_ge_t (q := 57) dX10_bestPlaceFor_15 (by decide) hc ?_
      cases h
      exact ev_weak _ (mLe_none (mLe_none (mLe_some (mLe_none (mLe_none (mLe_none mLe_nil)))))) (hexit _ hP)
    · rw [if_neg hc] at h
      refine ev_icmp_ge_f (q := 18) (t0 := 57) dX10_bestPlaceFor_15 (by decide) rfl hc ?_
      refine ev_aload_n (q := 19) dX10_bestPlaceFor_18 rfl rfl ?_
      replace h := Option.bind_eq_some_iff.mp h; obtain ⟨r1, hr1, h⟩ := h
      refine ev_gR dX10_bestPlaceFor_19 fl_X10_46 hr1 rfl ?_
      refine ev_iload (q := 24) dX10_bestPlaceFor_22 rfl rfl ?_
      replace h := Option.bind_eq_some_iff.mp h; obtain ⟨r2, hr2, h⟩ := h
      refine ev_invS (M1 := M_X10_at) (as := [vr r1, vi v4]) dX10_bestPlaceFor_24 rfl tw_406 cal_X10_at tw_252 (by decide) rfl rfl (Nat.le_of_ble_eq_true rfl) (met_X10_at r1 v4 w _ hr2) ?_
      refine ev_istore (q := 29) dX10_bestPlaceFor_27 rfl (by decide) ?_
      refine ev_iload (q := 31) dX10_bestPlaceFor_29 rfl rfl ?_
      refine ev_iload_n (q := 32) dX10_bestPlaceFor_31 rfl rfl ?_
      by_cases hc : r2 ≤ v3
      · rw [if_pos hc] at h
        refine ev_icmp_le_t (q := 51) dX10_bestPlaceFor_32 (by decide) hc ?_
        exact ev_weak _ (mLe_some (mLe_some (mLe_some (mLe_some (mLe_some (mLe_none mLe_nil)))))) (e_X10_bestPlaceFor_J51 P o v1 v2 v3 v4 w _ hk  _ h hP)
      · rw [if_neg hc] at h
        refine ev_icmp_le_f (q := 35) (t0 := 51) dX10_bestPlaceFor_32 (by decide) rfl hc ?_
        refine ev_aload_n (q := 36) dX10_bestPlaceFor_35 rfl rfl ?_
        refine ev_iload (q := 38) dX10_bestPlaceFor_36 rfl rfl ?_
        refine ev_iload_n (q := 39) dX10_bestPlaceFor_38 rfl rfl ?_
        replace h := Option.bind_eq_some_iff.mp h; obtain ⟨q4, hq4, h⟩ := h
        obtain ⟨hxq4, fsq4, hkq4⟩ := kO_spec hq4
        cases hxq4
        replace h := Option.bind_eq_some_iff.mp h; obtain ⟨r3, hr3, h⟩ := h
        refine ev_invV (M1 := M_X10_isTakenByAnother) (as := [vi v4, vi v1]) (fs := fsq4) (ci := 10) dX10_bestPlaceFor_39 rfl tw_498 cal_X10_isTakenByAnother tw_500 tw_15 (by decide) rfl rfl (Nat.le_of_ble_eq_true rfl) hkq4 rfl (met_X10_isTakenByAnother o v4 v1 w _ hr3) ?_
        by_cases hc : r3 = 0
        · rw [if_pos hc] at h
          refine ev_if_ne_f (q := 45) (t0 := 51) dX10_bestPlaceFor_42 (by decide) rfl hc ?_
          refine ev_iload (q := 47) dX10_bestPlaceFor_45 rfl rfl ?_
          refine ev_istore_n (q := 48) dX10_bestPlaceFor_47 rfl (by decide) ?_
          refine ev_iload (q := 50) dX10_bestPlaceFor_48 rfl rfl ?_
          refine ev_istore_n (q := 51) dX10_bestPlaceFor_50 rfl (by decide) ?_
          exact ev_weak _ (mLe_some (mLe_some (mLe_some (mLe_some (mLe_some (mLe_none mLe_nil)))))) (e_X10_bestPlaceFor_J51 P o v1 v4 r2 v4 w _ hk  _ h hP)
        · rw [if_neg hc] at h
          refine ev_if_ne_t (q := 51) dX10_bestPlaceFor_42 (by decide) hc ?_
          exact ev_weak _ (mLe_some (mLe_some (mLe_some (mLe_some (mLe_some (mLe_none mLe_nil)))))) (e_X10_bestPlaceFor_J51 P o v1 v2 v3 v4 w _ hk  _ h hP)
def f_X10_bestPlaceFor (o : Nat) (v1 : Int32) (w : mW) : Option (Int32 × mW) := Option.bind (kO w (some o) 10) fun _ => Option.bind (f_X10_countChances o  w) fun w5 => Option.bind (f_X10_bestPlaceFor_L11 o v1 w5 mFuel (-1 : Int32) (-1 : Int32) (0 : Int32)) fun e7 => some ((e7, w5))
set_option maxRecDepth 100000 in
set_option maxHeartbeats 4000000 in
theorem met_X10_bestPlaceFor (o : Nat) (v1 : Int32) (w : mW) (res : Int32 × mW) (h : f_X10_bestPlaceFor o v1 w = some res) : mMet M_X10_bestPlaceFor 5 [vr ((some o)), vi v1] w (some (vi res.1)) res.2 := by
  refine ev_met (n := 4) (by decide) rfl fun X => ?_
  unfold f_X10_bestPlaceFor at h
  show mEv X M_X10_bestPlaceFor 5 _ _ 0 [some (vr ((some o))), some (vi v1), none, none, none, none] [] w
  refine ev_aload_n (q := 1) dX10_bestPlaceFor_0 rfl rfl ?_
  replace h := Option.bind_eq_some_iff.mp h; obtain ⟨q6, hq6, h⟩ := h
  obtain ⟨hxq6, fsq6, hkq6⟩ := kO_spec hq6
  cases hxq6
  replace h := Option.bind_eq_some_iff.mp h; obtain ⟨w5, hw5, h⟩ := h
  refine ev_invV (M1 := M_X10_countChances) (as := []) (fs := fsq6) (ci := 10) dX10_bestPlaceFor_1 rfl tw_456 cal_X10_countChances tw_458 tw_11 (by decide) rfl rfl (Nat.le_of_ble_eq_true rfl) hkq6 rfl (met_X10_countChances o  w _ hw5) ?_
  refine ev_iconst (q := 5) (v := (-1 : Int32)) dX10_bestPlaceFor_4 rfl (by decide) ?_
  refine ev_istore_n (q := 6) dX10_bestPlaceFor_5 rfl (by decide) ?_
  refine ev_iconst (q := 7) (v := (-1 : Int32)) dX10_bestPlaceFor_6 rfl (by decide) ?_
  refine ev_istore_n (q := 8) dX10_bestPlaceFor_7 rfl (by decide) ?_
  refine ev_iconst (q := 9) (v := (0 : Int32)) dX10_bestPlaceFor_8 rfl (by decide) ?_
  refine ev_istore (q := 11) dX10_bestPlaceFor_9 rfl (by decide) ?_
  replace h := Option.bind_eq_some_iff.mp h; obtain ⟨e7, he7, h⟩ := h
  refine ev_weak _ (mLe_some (mLe_some (mLe_some (mLe_some (mLe_some (mLe_none mLe_nil)))))) (e_X10_bestPlaceFor_L11 (fun z => e7 = z) o v1 w5 (fun e7q hq => ?_) mFuel (-1 : Int32) (-1 : Int32) (0 : Int32) _ he7 rfl)
  subst hq
  refine ev_iload_n (q := 58) dX10_bestPlaceFor_57 rfl rfl ?_
  cases h
  exact ev_iret dX10_bestPlaceFor_58 rfl rfl
