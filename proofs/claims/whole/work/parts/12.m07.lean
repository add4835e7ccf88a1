def f_X10_lands (o : Nat) (v1 : Int32) (v2 : Int32) (w : mW) : Option (Int32) := Option.bind (kO w (some o) 10) fun _ => Option.bind (f_X10_isToss o v1 v2 w) fun r1 => if r1 = 0 then (some ((-101 : Int32))) else (Option.bind (gR w (some o) 10 3) fun r3 => Option.bind (gI w r3 2 8) fun r4 => Option.bind (kO w (some o) 10) fun _ => Option.bind (f_X10_landing o v1 v2 r4 w) fun r5 => some (r5))
set_option maxRecDepth 100000 in
set_option maxHeartbeats 4000000 in
theorem met_X10_lands (o : Nat) (v1 : Int32) (v2 : Int32) (w : mW) (res : Int32) (h : f_X10_lands o v1 v2 w = some res) : mMet M_X10_lands 3 [vr ((some o)), vi v1, vi v2] w (some (vi res)) w := by
  refine ev_met (n := 0) (by decide) rfl fun X => ?_
  unfold f_X10_lands at h
  show mEv X M_X10_lands 3 _ _ 0 [some (vr ((some o))), some (vi v1), some (vi v2)] [] w
  refine ev_aload_n (q := 1) dX10_lands_0 rfl rfl ?_
  refine ev_iload_n (q := 2) dX10_lands_1 rfl rfl ?_
  refine ev_iload_n (q := 3) dX10_lands_2 rfl rfl ?_
  replace h := Option.bind_eq_some_iff.mp h; obtain ⟨q2, hq2, h⟩ := h
  obtain ⟨hxq2, fsq2, hkq2⟩ := kO_spec hq2
  cases hxq2
  replace h := Option.bind_eq_some_iff.mp h; obtain ⟨r1, hr1, h⟩ := h
  refine ev_invV (M1 := M_X10_isToss) (as := [vi v1, vi v2]) (fs := fsq2) (ci := 10) dX10_lands_3 rfl tw_646 cal_X10_isToss tw_648 tw_20 (by decide) rfl rfl (Nat.le_of_ble_eq_true rfl) hkq2 rfl (met_X10_isToss o v1 v2 w _ hr1) ?_
  by_cases hc : r1 = 0
  · rw [if_pos hc] at h
    refine ev_if_ne_f (q := 9) (t0 := 12) dX10_lands_6 (by decide) rfl hc ?_
    refine ev_bipush (q := 11) (v := (-101 : Int32)) dX10_lands_9 rfl (by decide) ?_
    cases h
    exact ev_iret dX10_lands_11 rfl rfl
  · rw [if_neg hc] at h
    refine ev_if_ne_t (q := 12) dX10_lands_6 (by decide) hc ?_
    refine ev_aload_n (q := 13) dX10_lands_12 rfl rfl ?_
    refine ev_iload_n (q := 14) dX10_lands_13 rfl rfl ?_
    refine ev_iload_n (q := 15) dX10_lands_14 rfl rfl ?_
    refine ev_aload_n (q := 16) dX10_lands_15 rfl rfl ?_
    replace h := Option.bind_eq_some_iff.mp h; obtain ⟨r3, hr3, h⟩ := h
    refine ev_gR dX10_lands_16 fl_X10_32 hr3 rfl ?_
    replace h := Option.bind_eq_some_iff.mp h; obtain ⟨r4, hr4, h⟩ := h
    refine ev_gI dX10_lands_19 fl_X10_146 hr4 rfl ?_
    replace h := Option.bind_eq_some_iff.mp h; obtain ⟨q6, hq6, h⟩ := h
    obtain ⟨hxq6, fsq6, hkq6⟩ := kO_spec hq6
    cases hxq6
    replace h := Option.bind_eq_some_iff.mp h; obtain ⟨r5, hr5, h⟩ := h
    refine ev_invV (M1 := M_X10_landing) (as := [vi v1, vi v2, vi r4]) (fs := fsq6) (ci := 10) dX10_lands_22 rfl tw_519 cal_X10_landing tw_521 tw_13 (by decide) rfl rfl (Nat.le_of_ble_eq_true rfl) hkq6 rfl (met_X10_landing o v1 v2 r4 w _ hr5) ?_
    cases h
    exact ev_iret dX10_lands_25 rfl rfl
def f_X10_tellingAim_J40 (kc : Int32 → Int32 → Int32 → Option (Int32)) (v0 : Int32) (v1 : Int32) (v2 : Int32) (v3 : Int32) (w : mW) : Option (Int32) := kc v1 v2 (v3 + (1 : Int32))
set_option maxRecDepth 100000 in
set_option maxHeartbeats 4000000 in
theorem e_X10_tellingAim_J40 {X : mXs} {r : Option mV} {w' : mW} (P : (Int32) → Prop) (v0 : Int32) (v1 : Int32) (v2 : Int32) (v3 : Int32) (w : mW) (kc : Int32 → Int32 → Int32 → Option (Int32)) (hk : ∀ (u1 : Int32) (u2 : Int32) (u3 : Int32) (e : Int32), kc u1 u2 u3 = some e → P e → mEv X M_X10_tellingAim 3 r w' 16 [some (vi v0), some (vi u1), some (vi u2), some (vi u3), none] [] w) (e : Int32) (h : f_X10_tellingAim_J40 kc v0 v1 v2 v3 w = some e) (hP : P e) : mEv X M_X10_tellingAim 3 r w' 40 [some (vi v0), some (vi v1), some (vi v2), some (vi v3), none] [] w := by
  unfold f_X10_tellingAim_J40 at h
  refine ev_iinc (q := 43) (v := v3 + (1 : Int32)) dX10_tellingAim_40 rfl (by decide) rfl (by rfl) ?_
  refine ev_goto (q := 16) dX10_tellingAim_43 (by decide) ?_
  exact ev_weak _ (mLe_some (mLe_some (mLe_some (mLe_some (mLe_none mLe_nil))))) (hk v1 v2 (v3 + (1 : Int32)) _ h hP)
def f_X10_tellingAim_L16 (v0 : Int32) (w : mW) : Nat → Int32 → Int32 → Int32 → Option (Int32)
  | 0, _, _, _ => none
  | n + 1, v1, v2, v3 => if (6 : Int32) ≤ v3 then (some (v1)) else (Option.bind (f_X10_mostLeft v0 v3 w) fun r1 => if v2 ≤ r1 then (f_X10_tellingAim_J40 (f_X10_tellingAim_L16 v0 w n) v0 v1 v2 v3 w) else (f_X10_tellingAim_J40 (f_X10_tellingAim_L16 v0 w n) v0 v3 r1 v3 w))
set_option maxRecDepth 100000 in
set_option maxHeartbeats 4000000 in
theorem e_X10_tellingAim_L16 {X : mXs} {r : Option mV} {w' : mW} (P : (Int32) → Prop) (v0 : Int32) (w : mW) (hexit : ∀ y, P y → mEv X M_X10_tellingAim 3 r w' 46 [none, some (vi y), none, none, none] [] w) : ∀ (n : Nat) (v1 : Int32) (v2 : Int32) (v3 : Int32) (e : Int32), f_X10_tellingAim_L16 v0 w n v1 v2 v3 = some e → P e → mEv X M_X10_tellingAim 3 r w' 16 [some (vi v0), some (vi v1), some (vi v2), some (vi v3), none] [] w := by
  intro n
  induction n with
  | zero =>
    intro v1 v2 v3 e h hP
    rw [f_X10_tellingAim_L16] at h
    cases h
  | succ n hk =>
    intro v1 v2 v3 e h hP
    rw [f_X10_tellingAim_L16] at h
    refine ev_iload_n (q := 17) dX10_tellingAim_16 rfl rfl ?_
    refine ev_bipush (q := 19) (v := (6 : Int32)) dX10_tellingAim_17 rfl (by decide) ?_
    by_cases hc : (6 : Int32) ≤ v3
    · rw [if_pos hc] at h
      refine ev_icmp_ge_t (q := 46) dX10_tellingAim_19 (by decide) hc ?_
      cases h
      exact ev_weak _ (mLe_none (mLe_some (mLe_none (mLe_none (mLe_none mLe_nil))))) (hexit _ hP)
    · rw [if_neg hc] at h
      refine ev_icmp_ge_f (q := 22) (t0 := 46) dX10_tellingAim_19 (by decide) rfl hc ?_
      refine ev_iload_n (q := 23) dX10_tellingAim_22 rfl rfl ?_
      refine ev_iload_n (q := 24) dX10_tellingAim_23 rfl rfl ?_
      replace h := Option.bind_eq_some_iff.mp h; obtain ⟨r1, hr1, h⟩ := h
      refine ev_invS (M1 := M_X10_mostLeft) (as := [vi v0, vi v3]) dX10_tellingAim_24 rfl tw_630 cal_X10_mostLeft tw_631 (by decide) rfl rfl (Nat.le_of_ble_eq_true rfl) (met_X10_mostLeft v0 v3 w _ hr1) ?_
      refine ev_istore (q := 29) dX10_tellingAim_27 rfl (by decide) ?_
      refine ev_iload (q := 31) dX10_tellingAim_29 rfl rfl ?_
      refine ev_iload_n (q := 32) dX10_tellingAim_31 rfl rfl ?_
      by_cases hc : v2 ≤ r1
      · rw [if_pos hc] at h
        refine ev_icmp_ge_t (q := 40) dX10_tellingAim_32 (by decide) hc ?_
        exact ev_weak _ (mLe_some (mLe_some (mLe_some (mLe_some (mLe_none mLe_nil))))) (e_X10_tellingAim_J40 P v0 v1 v2 v3 w _ hk  _ h hP)
      · rw [if_neg hc] at h
        refine ev_icmp_ge_f (q := 35) (t0 := 40) dX10_tellingAim_32 (by decide) rfl hc ?_
        refine ev_iload (q := 37) dX10_tellingAim_35 rfl rfl ?_
        refine ev_istore_n (q := 38) dX10_tellingAim_37 rfl (by decide) ?_
        refine ev_iload_n (q := 39) dX10_tellingAim_38 rfl rfl ?_
        refine ev_istore_n (q := 40) dX10_tellingAim_39 rfl (by decide) ?_
        exact ev_weak _ (mLe_some (mLe_some (mLe_some (mLe_some (mLe_none mLe_nil))))) (e_X10_tellingAim_J40 P v0 v3 r1 v3 w _ hk  _ h hP)
def f_X10_tellingAim (v0 : Int32) (w : mW) : Option (Int32) := if v0 = 0 then (some ((-1 : Int32))) else (Option.bind (f_X10_mostLeft v0 (0 : Int32) w) fun r2 => Option.bind (f_X10_tellingAim_L16 v0 w mFuel (0 : Int32) r2 (1 : Int32)) fun e3 => some (e3))
set_option maxRecDepth 100000 in
set_option maxHeartbeats 4000000 in
theorem met_X10_tellingAim (v0 : Int32) (w : mW) (res : Int32) (h : f_X10_tellingAim v0 w = some res) : mMet M_X10_tellingAim 3 [vi v0] w (some (vi res)) w := by
  refine ev_met (n := 4) (by decide) rfl fun X => ?_
  unfold f_X10_tellingAim at h
  show mEv X M_X10_tellingAim 3 _ _ 0 [some (vi v0), none, none, none, none] [] w
  refine ev_iload_n (q := 1) dX10_tellingAim_0 rfl rfl ?_
  by_cases hc : v0 = 0
  · rw [if_pos hc] at h
    refine ev_if_ne_f (q := 4) (t0 := 6) dX10_tellingAim_1 (by decide) rfl hc ?_
    refine ev_iconst (q := 5) (v := (-1 : Int32)) dX10_tellingAim_4 rfl (by decide) ?_
    cases h
    exact ev_iret dX10_tellingAim_5 rfl rfl
  · rw [if_neg hc] at h
    refine ev_if_ne_t (q := 6) dX10_tellingAim_1 (by decide) hc ?_
    refine ev_iconst (q := 7) (v := (0 : Int32)) dX10_tellingAim_6 rfl (by decide) ?_
    refine ev_istore_n (q := 8) dX10_tellingAim_7 rfl (by decide) ?_
    refine ev_iload_n (q := 9) dX10_tellingAim_8 rfl rfl ?_
    refine ev_iconst (q := 10) (v := (0 : Int32)) dX10_tellingAim_9 rfl (by decide) ?_
    replace h := Option.bind_eq_some_iff.mp h; obtain ⟨r2, hr2, h⟩ := h
    refine ev_invS (M1 := M_X10_mostLeft) (as := [vi v0, vi ((0 : Int32))]) dX10_tellingAim_10 rfl tw_630 cal_X10_mostLeft tw_631 (by decide) rfl rfl (Nat.le_of_ble_eq_true rfl) (met_X10_mostLeft v0 (0 : Int32) w _ hr2) ?_
    refine ev_istore_n (q := 14) dX10_tellingAim_13 rfl (by decide) ?_
    refine ev_iconst (q := 15) (v := (1 : Int32)) dX10_tellingAim_14 rfl (by decide) ?_
    refine ev_istore_n (q := 16) dX10_tellingAim_15 rfl (by decide) ?_
    replace h := Option.bind_eq_some_iff.mp h; obtain ⟨e3, he3, h⟩ := h
    refine ev_weak _ (mLe_some (mLe_some (mLe_some (mLe_some (mLe_none mLe_nil))))) (e_X10_tellingAim_L16 (fun z => e3 = z) v0 w (fun e3q hq => ?_) mFuel (0 : Int32) r2 (1 : Int32) _ he3 rfl)
    subst hq
    refine ev_iload_n (q := 47) dX10_tellingAim_46 rfl rfl ?_
    cases h
    exact ev_iret dX10_tellingAim_47 rfl rfl
def f_X10_who_J38 (kc : Int32 → Int32 → Option (Int32)) (o : Nat) (v1 : Int32) (v2 : Int32) (v3 : Int32) (w : mW) : Option (Int32) := kc v2 (v3 + (1 : Int32))
set_option maxRecDepth 100000 in
set_option maxHeartbeats 4000000 in
theorem e_X10_who_J38 {X : mXs} {r : Option mV} {w' : mW} (P : (Int32) → Prop) (o : Nat) (v1 : Int32) (v2 : Int32) (v3 : Int32) (w : mW) (kc : Int32 → Int32 → Option (Int32)) (hk : ∀ (u2 : Int32) (u3 : Int32) (e : Int32), kc u2 u3 = some e → P e → mEv X M_X10_who 3 r w' 15 [some (vr ((some o))), some (vi v1), some (vi u2), some (vi u3)] [] w) (e : Int32) (h : f_X10_who_J38 kc o v1 v2 v3 w = some e) (hP : P e) : mEv X M_X10_who 3 r w' 38 [some (vr ((some o))), some (vi v1), some (vi v2), some (vi v3)] [] w := by
  unfold f_X10_who_J38 at h
  refine ev_iinc (q := 41) (v := v3 + (1 : Int32)) dX10_who_38 rfl (by decide) rfl (by rfl) ?_
  refine ev_goto (q := 15) dX10_who_41 (by decide) ?_
  exact ev_weak _ (mLe_some (mLe_some (mLe_some (mLe_some mLe_nil)))) (hk v2 (v3 + (1 : Int32)) _ h hP)
def f_X10_who_L15 (o : Nat) (v1 : Int32) (w : mW) : Nat → Int32 → Int32 → Option (Int32)
  | 0, _, _ => none
  | n + 1, v2, v3 => Option.bind (gI w (some o) 10 8) fun r1 => if r1 ≤ v3 then (some (v2)) else (Option.bind (kO w (some o) 10) fun _ => Option.bind (f_X10_canLandAt o v3 v1 w) fun r2 => if r2 = 0 then (f_X10_who_J38 (f_X10_who_L15 o v1 w n) o v1 v2 v3 w) else (f_X10_who_J38 (f_X10_who_L15 o v1 w n) o v1 (v2 ||| ((1 : Int32) <<< (v3 &&& 31))) v3 w))
set_option maxRecDepth 100000 in
set_option maxHeartbeats 4000000 in
theorem e_X10_who_L15 {X : mXs} {r : Option mV} {w' : mW} (P : (Int32) → Prop) (o : Nat) (v1 : Int32) (w : mW) (hexit : ∀ y, P y → mEv X M_X10_who 3 r w' 44 [none, none, some (vi y), none] [] w) : ∀ (n : Nat) (v2 : Int32) (v3 : Int32) (e : Int32), f_X10_who_L15 o v1 w n v2 v3 = some e → P e → mEv X M_X10_who 3 r w' 15 [some (vr ((some o))), some (vi v1), some (vi v2), some (vi v3)] [] w := by
  intro n
  induction n with
  | zero =>
    intro v2 v3 e h hP
    rw [f_X10_who_L15] at h
    cases h
  | succ n hk =>
    intro v2 v3 e h hP
    rw [f_X10_who_L15] at h
    refine ev_iload_n (q := 16) dX10_who_15 rfl rfl ?_
    refine ev_aload_n (q := 17) dX10_who_16 rfl rfl ?_
    replace h := Option.bind_eq_some_iff.mp h; obtain ⟨r1, hr1, h⟩ := h
    refine ev_gI dX10_who_17 fl_X10_197 hr1 rfl ?_
    by_cases hc : r1 ≤ v3
    · rw [if_pos hc] at h
      refine ev_icmp_ge_t (q := 44) dX10_who_20 (by decide) hc ?_
      cases h
      exact ev_weak _ (mLe_none (mLe_none (mLe_some (mLe_none mLe_nil)))) (hexit _ hP)
    · rw [if_neg hc] at h
      refine ev_icmp_ge_f (q := 23) (t0 := 44) dX10_who_20 (by decide) rfl hc ?_
      refine ev_aload_n (q := 24) dX10_who_23 rfl rfl ?_
      refine ev_iload_n (q := 25) dX10_who_24 rfl rfl ?_
      refine ev_iload_n (q := 26) dX10_who_25 rfl rfl ?_
      replace h := Option.bind_eq_some_iff.mp h; obtain ⟨q3, hq3, h⟩ := h
      obtain ⟨hxq3, fsq3, hkq3⟩ := kO_spec hq3
      cases hxq3
      replace h := Option.bind_eq_some_iff.mp h; obtain ⟨r2, hr2, h⟩ := h
      refine ev_invV (M1 := M_X10_canLandAt) (as := [vi v3, vi v1]) (fs := fsq3) (ci := 10) dX10_who_26 rfl tw_750 cal_X10_canLandAt tw_752 tw_27 (by decide) rfl rfl (Nat.le_of_ble_eq_true rfl) hkq3 rfl (met_X10_canLandAt o v3 v1 w _ hr2) ?_
      by_cases hc : r2 = 0
      · rw [if_pos hc] at h
        refine ev_if_eq_t (q := 38) dX10_who_29 (by decide) hc ?_
        exact ev_weak _ (mLe_some (mLe_some (mLe_some (mLe_some mLe_nil)))) (e_X10_who_J38 P o v1 v2 v3 w _ hk  _ h hP)
      · rw [if_neg hc] at h
        refine ev_if_eq_f (q := 32) (t0 := 38) dX10_who_29 (by decide) rfl hc ?_
        refine ev_iload_n (q := 33) dX10_who_32 rfl rfl ?_
        refine ev_iconst (q := 34) (v := (1 : Int32)) dX10_who_33 rfl (by decide) ?_
        refine ev_iload_n (q := 35) dX10_who_34 rfl rfl ?_
        refine ev_ishl (q := 36) dX10_who_35 rfl ?_
        refine ev_ior (q := 37) dX10_who_36 rfl ?_
        refine ev_istore_n (q := 38) dX10_who_37 rfl (by decide) ?_
        exact ev_weak _ (mLe_some (mLe_some (mLe_some (mLe_some mLe_nil)))) (e_X10_who_J38 P o v1 (v2 ||| ((1 : Int32) <<< (v3 &&& 31))) v3 w _ hk  _ h hP)
def f_X10_who (o : Nat) (v1 : Int32) (w : mW) : Option (Int32) := Option.bind (kO w (some o) 10) fun _ => Option.bind (f_X10_isCell o v1 w) fun r4 => if r4 = 0 then (some ((-101 : Int32))) else (Option.bind (f_X10_who_L15 o v1 w mFuel (0 : Int32) (0 : Int32)) fun e6 => some (e6))
set_option maxRecDepth 100000 in
set_option maxHeartbeats 4000000 in
theorem met_X10_who (o : Nat) (v1 : Int32) (w : mW) (res : Int32) (h : f_X10_who o v1 w = some res) : mMet M_X10_who 3 [vr ((some o)), vi v1] w (some (vi res)) w := by
  refine ev_met (n := 2) (by decide) rfl fun X => ?_
  unfold f_X10_who at h
  show mEv X M_X10_who 3 _ _ 0 [some (vr ((some o))), some (vi v1), none, none] [] w
  refine ev_aload_n (q := 1) dX10_who_0 rfl rfl ?_
  refine ev_iload_n (q := 2) dX10_who_1 rfl rfl ?_
  replace h := Option.bind_eq_some_iff.mp h; obtain ⟨q5, hq5, h⟩ := h
  obtain ⟨hxq5, fsq5, hkq5⟩ := kO_spec hq5
  cases hxq5
  replace h := Option.bind_eq_some_iff.mp h; obtain ⟨r4, hr4, h⟩ := h
  refine ev_invV (M1 := M_X10_isCell) (as := [vi v1]) (fs := fsq5) (ci := 10) dX10_who_2 rfl tw_650 cal_X10_isCell tw_652 tw_21 (by decide) rfl rfl (Nat.le_of_ble_eq_true rfl) hkq5 rfl (met_X10_isCell o v1 w _ hr4) ?_
  by_cases hc : r4 = 0
  · rw [if_pos hc] at h
    refine ev_if_ne_f (q := 8) (t0 := 11) dX10_who_5 (by decide) rfl hc ?_
    refine ev_bipush (q := 10) (v := (-101 : Int32)) dX10_who_8 rfl (by decide) ?_
    cases h
    exact ev_iret dX10_who_10 rfl rfl
  · rw [if_neg hc] at h
    refine ev_if_ne_t (q := 11) dX10_who_5 (by decide) hc ?_
    refine ev_iconst (q := 12) (v := (0 : Int32)) dX10_who_11 rfl (by decide) ?_
    refine ev_istore_n (q := 13) dX10_who_12 rfl (by decide) ?_
    refine ev_iconst (q := 14) (v := (0 : Int32)) dX10_who_13 rfl (by decide) ?_
    refine ev_istore_n (q := 15) dX10_who_14 rfl (by decide) ?_
    replace h := Option.bind_eq_some_iff.mp h; obtain ⟨e6, he6, h⟩ := h
    refine ev_weak _ (mLe_some (mLe_some (mLe_some (mLe_some mLe_nil)))) (e_X10_who_L15 (fun z => e6 = z) o v1 w (fun e6q hq => ?_) mFuel (0 : Int32) (0 : Int32) _ he6 rfl)
    subst hq
    refine ev_iload_n (q := 45) dX10_who_44 rfl rfl ?_
    cases h
    exact ev_iret dX10_who_45 rfl rfl
def f_X1_init (o : Nat) (w : mW) : Option (Unit) := Option.bind (f_X9_init o  w) fun r1 => some (())
set_option maxRecDepth 100000 in
set_option maxHeartbeats 4000000 in
theorem met_X1_init (o : Nat) (w : mW) (res : Unit) (h : f_X1_init o w = some res) : mMet M_X1_init 3 [vr ((some o))] w none w := by
  refine ev_met (n := 0) (by decide) rfl fun X => ?_
  unfold f_X1_init at h
  show mEv X M_X1_init 3 _ _ 0 [some (vr ((some o)))] [] w
  refine ev_aload_n (q := 1) dX1_init_0 rfl rfl ?_
  replace h := Option.bind_eq_some_iff.mp h; obtain ⟨r1, hr1, h⟩ := h
  refine ev_invIN (M1 := M_X9_init) (as := []) dX1_init_1 rfl tw_493 cal_X9_init tw_477 rfl rfl (by decide) rfl rfl (Nat.le_of_ble_eq_true rfl) (met_X9_init o  w _ hr1) ?_
  cases h
  exact ev_vret dX1_init_4 rfl
def f_X2_takeFrom (o : Nat) (v1 : Option Nat) (w : mW) : Option (mW) := oC v1 (some (w)) (fun a1 => Option.bind (gR w (some a1) 2 0) fun r2 => Option.bind (gR w (some o) 2 0) fun r3 => Option.bind (f_X10_copy r2 r3 w) fun w4 => Option.bind (gR w4 (some a1) 2 1) fun r5 => Option.bind (gR w4 (some o) 2 1) fun r6 => Option.bind (f_X10_copy r5 r6 w4) fun w7 => Option.bind (gR w7 (some a1) 2 2) fun r8 => Option.bind (gR w7 (some o) 2 2) fun r9 => Option.bind (f_X10_copy r8 r9 w7) fun w10 => Option.bind (gR w10 (some a1) 2 3) fun r11 => Option.bind (gR w10 (some o) 2 3) fun r12 => Option.bind (f_X10_copy r11 r12 w10) fun w13 => Option.bind (gR w13 (some a1) 2 4) fun r14 => Option.bind (gR w13 (some o) 2 4) fun r15 => Option.bind (f_X10_copy r14 r15 w13) fun w16 => Option.bind (gR w16 (some a1) 2 5) fun r17 => Option.bind (gR w16 (some o) 2 5) fun r18 => Option.bind (f_X10_copy r17 r18 w16) fun w19 => Option.bind (gR w19 (some o) 2 6) fun r20 => Option.bind (gR w19 (some a1) 2 6) fun r21 => Option.bind (kO w19 r20 6) fun q23 => Option.bind (f_X6_takeFrom q23 r21 w19) fun w22 => Option.bind (gI w22 (some a1) 2 7) fun r24 => Option.bind (pI w22 (some o) 2 7 r24) fun w25 => Option.bind (gI w25 (some a1) 2 8) fun r26 => Option.bind (pI w25 (some o) 2 8 r26) fun w27 => Option.bind (gI w27 (some a1) 2 9) fun r28 => Option.bind (pI w27 (some o) 2 9 r28) fun w29 => Option.bind (gI w29 (some a1) 2 10) fun r30 => Option.bind (pI w29 (some o) 2 10 r30) fun w31 => Option.bind (gI w31 (some a1) 2 11) fun r32 => Option.bind (pI w31 (some o) 2 11 r32) fun w33 => some (w33))
set_option maxRecDepth 100000 in
set_option maxHeartbeats 4000000 in
theorem met_X2_takeFrom (o : Nat) (v1 : Option Nat) (w : mW) (res : mW) (h : f_X2_takeFrom o v1 w = some res) : mMet M_X2_takeFrom 3 [vr ((some o)), vr v1] w none res := by
  refine ev_met (n := 0) (by decide) rfl fun X => ?_
  unfold f_X2_takeFrom at h
  show mEv X M_X2_takeFrom 3 _ _ 0 [some (vr ((some o))), some (vr v1)] [] w
  refine ev_aload_n (q := 1) dX2_takeFrom_0 rfl rfl ?_
  rcases v1 with _ | a1
  · dsimp only [oC] at h
    refine ev_ifnonnull_f (q := 4) dX2_takeFrom_1 rfl ?_
    cases h
    exact ev_vret dX2_takeFrom_4 rfl
  · dsimp only [oC] at h
    refine ev_ifnonnull_t (q := 5) dX2_takeFrom_1 (by decide) ?_
    refine ev_aload_n (q := 6) dX2_takeFrom_5 rfl rfl ?_
    replace h := Option.bind_eq_some_iff.mp h; obtain ⟨r2, hr2, h⟩ := h
    refine ev_gR dX2_takeFrom_6 fl_X2_9 hr2 rfl ?_
    refine ev_aload_n (q := 10) dX2_takeFrom_9 rfl rfl ?_
    replace h := Option.bind_eq_some_iff.mp h; obtain ⟨r3, hr3, h⟩ := h
    refine ev_gR dX2_takeFrom_10 fl_X2_9 hr3 rfl ?_
    replace h := Option.bind_eq_some_iff.mp h; obtain ⟨w4, hw4, h⟩ := h
    refine ev_invSN (M1 := M_X10_copy) (as := [vr r2, vr r3]) dX2_takeFrom_13 rfl tw_453 cal_X10_copy tw_454 (by decide) rfl rfl (Nat.le_of_ble_eq_true rfl) (met_X10_copy r2 r3 w _ hw4) ?_
    refine ev_aload_n (q := 17) dX2_takeFrom_16 rfl rfl ?_
    replace h := Option.bind_eq_some_iff.mp h; obtain ⟨r5, hr5, h⟩ := h
    refine ev_gR dX2_takeFrom_17 fl_X2_15 hr5 rfl ?_
    refine ev_aload_n (q := 21) dX2_takeFrom_20 rfl rfl ?_
    replace h := Option.bind_eq_some_iff.mp h; obtain ⟨r6, hr6, h⟩ := h
    refine ev_gR dX2_takeFrom_21 fl_X2_15 hr6 rfl ?_
    replace h := Option.bind_eq_some_iff.mp h; obtain ⟨w7, hw7, h⟩ := h
    refine ev_invSN (M1 := M_X10_copy) (as := [vr r5, vr r6]) dX2_takeFrom_24 rfl tw_453 cal_X10_copy tw_454 (by decide) rfl rfl (Nat.le_of_ble_eq_true rfl) (met_X10_copy r5 r6 w4 _ hw7) ?_
    refine ev_aload_n (q := 28) dX2_takeFrom_27 rfl rfl ?_
    replace h := Option.bind_eq_some_iff.mp h; obtain ⟨r8, hr8, h⟩ := h
    refine ev_gR dX2_takeFrom_28 fl_X2_18 hr8 rfl ?_
    refine ev_aload_n (q := 32) dX2_takeFrom_31 rfl rfl ?_
    replace h := Option.bind_eq_some_iff.mp h; obtain ⟨r9, hr9, h⟩ := h
    refine ev_gR dX2_takeFrom_32 fl_X2_18 hr9 rfl ?_
    replace h := Option.bind_eq_some_iff.mp h; obtain ⟨w10, hw10, h⟩ := h
    refine ev_invSN (M1 := M_X10_copy) (as := [vr r8, vr r9]) dX2_takeFrom_35 rfl tw_453 cal_X10_copy tw_454 (by decide) rfl rfl (Nat.le_of_ble_eq_true rfl) (met_X10_copy r8 r9 w7 _ hw10) ?_
    refine ev_aload_n (q := 39) dX2_takeFrom_38 rfl rfl ?_
    replace h := Option.bind_eq_some_iff.mp h; obtain ⟨r11, hr11, h⟩ := h
    refine ev_gR dX2_takeFrom_39 fl_X2_21 hr11 rfl ?_
    refine ev_aload_n (q := 43) dX2_takeFrom_42 rfl rfl ?_
    replace h := Option.bind_eq_some_iff.mp h; obtain ⟨r12, hr12, h⟩ := h
    refine ev_gR dX2_takeFrom_43 fl_X2_21 hr12 rfl ?_
    replace h := Option.bind_eq_some_iff.mp h; obtain ⟨w13, hw13, h⟩ := h
    refine ev_invSN (M1 := M_X10_copy) (as := [vr r11, vr r12]) dX2_takeFrom_46 rfl tw_453 cal_X10_copy tw_454 (by decide) rfl rfl (Nat.le_of_ble_eq_true rfl) (met_X10_copy r11 r12 w10 _ hw13) ?_
    refine ev_aload_n (q := 50) dX2_takeFrom_49 rfl rfl ?_
    replace h := Option.bind_eq_some_iff.mp h; obtain ⟨r14, hr14, h⟩ := h
    refine ev_gR dX2_takeFrom_50 fl_X2_24 hr14 rfl ?_
    refine ev_aload_n (q := 54) dX2_takeFrom_53 rfl rfl ?_
    replace h := Option.bind_eq_some_iff.mp h; obtain ⟨r15, hr15, h⟩ := h
    refine ev_gR dX2_takeFrom_54 fl_X2_24 hr15 rfl ?_
    replace h := Option.bind_eq_some_iff.mp h; obtain ⟨w16, hw16, h⟩ := h
    refine ev_invSN (M1 := M_X10_copy) (as := [vr r14, vr r15]) dX2_takeFrom_57 rfl tw_453 cal_X10_copy tw_454 (by decide) rfl rfl (Nat.le_of_ble_eq_true rfl) (met_X10_copy r14 r15 w13 _ hw16) ?_
    refine ev_aload_n (q := 61) dX2_takeFrom_60 rfl rfl ?_
    replace h := Option.bind_eq_some_iff.mp h; obtain ⟨r17, hr17, h⟩ := h
    refine ev_gR dX2_takeFrom_61 fl_X2_27 hr17 rfl ?_
    refine ev_aload_n (q := 65) dX2_takeFrom_64 rfl rfl ?_
    replace h := Option.bind_eq_some_iff.mp h; obtain ⟨r18, hr18, h⟩ := h
    refine ev_gR dX2_takeFrom_65 fl_X2_27 hr18 rfl ?_
    replace h := Option.bind_eq_some_iff.mp h; obtain ⟨w19, hw19, h⟩ := h
    refine ev_invSN (M1 := M_X10_copy) (as := [vr r17, vr r18]) dX2_takeFrom_68 rfl tw_453 cal_X10_copy tw_454 (by decide) rfl rfl (Nat.le_of_ble_eq_true rfl) (met_X10_copy r17 r18 w16 _ hw19) ?_
    refine ev_aload_n (q := 72) dX2_takeFrom_71 rfl rfl ?_
    replace h := Option.bind_eq_some_iff.mp h; obtain ⟨r20, hr20, h⟩ := h
    refine ev_gR dX2_takeFrom_72 fl_X2_33 hr20 rfl ?_
    refine ev_aload_n (q := 76) dX2_takeFrom_75 rfl rfl ?_
    replace h := Option.bind_eq_some_iff.mp h; obtain ⟨r21, hr21, h⟩ := h
    refine ev_gR dX2_takeFrom_76 fl_X2_33 hr21 rfl ?_
    replace h := Option.bind_eq_some_iff.mp h; obtain ⟨q23, hq23, h⟩ := h
    obtain ⟨hxq23, fsq23, hkq23⟩ := kO_spec hq23
    subst hxq23
    replace h := Option.bind_eq_some_iff.mp h; obtain ⟨w22, hw22, h⟩ := h
    refine ev_invV (M1 := M_X6_takeFrom) (as := [vr r21]) (fs := fsq23) (ci := 6) dX2_takeFrom_79 rfl tw_789 cal_X6_takeFrom tw_790 tw_791 (by decide) rfl rfl (Nat.le_of_ble_eq_true rfl) hkq23 rfl (met_X6_takeFrom q23 r21 w19 _ hw22) ?_
    refine ev_aload_n (q := 83) dX2_takeFrom_82 rfl rfl ?_
    refine ev_aload_n (q := 84) dX2_takeFrom_83 rfl rfl ?_
    replace h := Option.bind_eq_some_iff.mp h; obtain ⟨r24, hr24, h⟩ := h
    refine ev_gI dX2_takeFrom_84 fl_X2_54 hr24 rfl ?_
    replace h := Option.bind_eq_some_iff.mp h; obtain ⟨w25, hw25, h⟩ := h
    refine ev_pI dX2_takeFrom_87 fp_X2_54 hw25 rfl ?_
    refine ev_aload_n (q := 91) dX2_takeFrom_90 rfl rfl ?_
    refine ev_aload_n (q := 92) dX2_takeFrom_91 rfl rfl ?_
    replace h := Option.bind_eq_some_iff.mp h; obtain ⟨r26, hr26, h⟩ := h
    refine ev_gI dX2_takeFrom_92 fl_X2_57 hr26 rfl ?_
    replace h := Option.bind_eq_some_iff.mp h; obtain ⟨w27, hw27, h⟩ := h
    refine ev_pI dX2_takeFrom_95 fp_X2_57 hw27 rfl ?_
    refine ev_aload_n (q := 99) dX2_takeFrom_98 rfl rfl ?_
    refine ev_aload_n (q := 100) dX2_takeFrom_99 rfl rfl ?_
    replace h := Option.bind_eq_some_iff.mp h; obtain ⟨r28, hr28, h⟩ := h
    refine ev_gI dX2_takeFrom_100 fl_X2_60 hr28 rfl ?_
    replace h := Option.bind_eq_some_iff.mp h; obtain ⟨w29, hw29, h⟩ := h
    refine ev_pI dX2_takeFrom_103 fp_X2_60 hw29 rfl ?_
    refine ev_aload_n (q := 107) dX2_takeFrom_106 rfl rfl ?_
    refine ev_aload_n (q := 108) dX2_takeFrom_107 rfl rfl ?_
    replace h := Option.bind_eq_some_iff.mp h; obtain ⟨r30, hr30, h⟩ := h
    refine ev_gI dX2_takeFrom_108 fl_X2_63 hr30 rfl ?_
    replace h := Option.bind_eq_some_iff.mp h; obtain ⟨w31, hw31, h⟩ := h
    refine ev_pI dX2_takeFrom_111 fp_X2_63 hw31 rfl ?_
    refine ev_aload_n (q := 115) dX2_takeFrom_114 rfl rfl ?_
    refine ev_aload_n (q := 116) dX2_takeFrom_115 rfl rfl ?_
    replace h := Option.bind_eq_some_iff.mp h; obtain ⟨r32, hr32, h⟩ := h
    refine ev_gI dX2_takeFrom_116 fl_X2_66 hr32 rfl ?_
    replace h := Option.bind_eq_some_iff.mp h; obtain ⟨w33, hw33, h⟩ := h
    refine ev_pI dX2_takeFrom_119 fp_X2_66 hw33 rfl ?_
    cases h
    exact ev_vret dX2_takeFrom_122 rfl
def f_X6_turnsOf_J24 (kc : Int32 → Int32 → Option (Int32)) (o : Nat) (v1 : Int32) (v2 : Int32) (v3 : Int32) (w : mW) : Option (Int32) := kc v2 (v3 + (1 : Int32))
set_option maxRecDepth 100000 in
set_option maxHeartbeats 4000000 in
theorem e_X6_turnsOf_J24 {X : mXs} {r : Option mV} {w' : mW} (P : (Int32) → Prop) (o : Nat) (v1 : Int32) (v2 : Int32) (v3 : Int32) (w : mW) (kc : Int32 → Int32 → Option (Int32)) (hk : ∀ (u2 : Int32) (u3 : Int32) (e : Int32), kc u2 u3 = some e → P e → mEv X M_X6_turnsOf 3 r w' 4 [some (vr ((some o))), some (vi v1), some (vi u2), some (vi u3)] [] w) (e : Int32) (h : f_X6_turnsOf_J24 kc o v1 v2 v3 w = some e) (hP : P e) : mEv X M_X6_turnsOf 3 r w' 24 [some (vr ((some o))), some (vi v1), some (vi v2), some (vi v3)] [] w := by
  unfold f_X6_turnsOf_J24 at h
  refine ev_iinc (q := 27) (v := v3 + (1 : Int32)) dX6_turnsOf_24 rfl (by decide) rfl (by rfl) ?_
  refine ev_goto (q := 4) dX6_turnsOf_27 (by decide) ?_
  exact ev_weak _ (mLe_some (mLe_some (mLe_some (mLe_some mLe_nil)))) (hk v2 (v3 + (1 : Int32)) _ h hP)
def f_X6_turnsOf_L4 (o : Nat) (v1 : Int32) (w : mW) : Nat → Int32 → Int32 → Option (Int32)
  | 0, _, _ => none
  | n + 1, v2, v3 => if (5 : Int32) ≤ v3 then (some (v2)) else (Option.bind (kO w (some o) 6) fun _ => Option.bind (f_X6_allows o v1 v3 w) fun r1 => if r1 = 0 then (f_X6_turnsOf_J24 (f_X6_turnsOf_L4 o v1 w n) o v1 v2 v3 w) else (f_X6_turnsOf_J24 (f_X6_turnsOf_L4 o v1 w n) o v1 (v2 ||| ((1 : Int32) <<< (v3 &&& 31))) v3 w))
set_option maxRecDepth 100000 in
set_option maxHeartbeats 4000000 in
theorem e_X6_turnsOf_L4 {X : mXs} {r : Option mV} {w' : mW} (P : (Int32) → Prop) (o : Nat) (v1 : Int32) (w : mW) (hexit : ∀ y, P y → mEv X M_X6_turnsOf 3 r w' 30 [none, none, some (vi y), none] [] w) : ∀ (n : Nat) (v2 : Int32) (v3 : Int32) (e : Int32), f_X6_turnsOf_L4 o v1 w n v2 v3 = some e → P e → mEv X M_X6_turnsOf 3 r w' 4 [some (vr ((some o))), some (vi v1), some (vi v2), some (vi v3)] [] w := by
  intro n
  induction n with
  | zero =>
    intro v2 v3 e h hP
    rw [f_X6_turnsOf_L4] at h
    cases h
  | succ n hk =>
    intro v2 v3 e h hP
    rw [f_X6_turnsOf_L4] at h
    refine ev_iload_n (q := 5) dX6_turnsOf_4 rfl rfl ?_
    refine ev_iconst (q := 6) (v := (5 : Int32)) dX6_turnsOf_5 rfl (by decide) ?_
    by_cases hc : (5 : Int32) ≤ v3
    · rw [if_pos hc] at h
      refine ev_icmp_ge_t (q := 30) dX6_turnsOf_6 (by decide) hc ?_
      cases h
      exact ev_weak _ (mLe_none (mLe_none (mLe_some (mLe_none mLe_nil)))) (hexit _ hP)
    · rw [if_neg hc] at h
      refine ev_icmp_ge_f (q := 9) (t0 := 30) dX6_turnsOf_6 (by decide) rfl hc ?_
      refine ev_aload_n (q := 10) dX6_turnsOf_9 rfl rfl ?_
      refine ev_iload_n (q := 11) dX6_turnsOf_10 rfl rfl ?_
      refine ev_iload_n (q := 12) dX6_turnsOf_11 rfl rfl ?_
      replace h := Option.bind_eq_some_iff.mp h; obtain ⟨q2, hq2, h⟩ := h
      obtain ⟨hxq2, fsq2, hkq2⟩ := kO_spec hq2
      cases hxq2
      replace h := Option.bind_eq_some_iff.mp h; obtain ⟨r1, hr1, h⟩ := h
      refine ev_invV (M1 := M_X6_allows) (as := [vi v1, vi v3]) (fs := fsq2) (ci := 6) dX6_turnsOf_12 rfl tw_616 cal_X6_allows tw_618 tw_19 (by decide) rfl rfl (Nat.le_of_ble_eq_true rfl) hkq2 rfl (met_X6_allows o v1 v3 w _ hr1) ?_
      by_cases hc : r1 = 0
      · rw [if_pos hc] at h
        refine ev_if_eq_t (q := 24) dX6_turnsOf_15 (by decide) hc ?_
        exact ev_weak _ (mLe_some (mLe_some (mLe_some (mLe_some mLe_nil)))) (e_X6_turnsOf_J24 P o v1 v2 v3 w _ hk  _ h hP)
      · rw [if_neg hc] at h
        refine ev_if_eq_f (q := 18) (t0 := 24) dX6_turnsOf_15 (by decide) rfl hc ?_
        refine ev_iload_n (q := 19) dX6_turnsOf_18 rfl rfl ?_
        refine ev_iconst (q := 20) (v := (1 : Int32)) dX6_turnsOf_19 rfl (by decide) ?_
        refine ev_iload_n (q := 21) dX6_turnsOf_20 rfl rfl ?_
        refine ev_ishl (q := 22) dX6_turnsOf_21 rfl ?_
        refine ev_ior (q := 23) dX6_turnsOf_22 rfl ?_
        refine ev_istore_n (q := 24) dX6_turnsOf_23 rfl (by decide) ?_
        exact ev_weak _ (mLe_some (mLe_some (mLe_some (mLe_some mLe_nil)))) (e_X6_turnsOf_J24 P o v1 (v2 ||| ((1 : Int32) <<< (v3 &&& 31))) v3 w _ hk  _ h hP)
def f_X6_turnsOf (o : Nat) (v1 : Int32) (w : mW) : Option (Int32) := Option.bind (f_X6_turnsOf_L4 o v1 w mFuel (0 : Int32) (0 : Int32)) fun e3 => some (e3)
set_option maxRecDepth 100000 in
set_option maxHeartbeats 4000000 in
theorem met_X6_turnsOf (o : Nat) (v1 : Int32) (w : mW) (res : Int32) (h : f_X6_turnsOf o v1 w = some res) : mMet M_X6_turnsOf 3 [vr ((some o)), vi v1] w (some (vi res)) w := by
  refine ev_met (n := 2) (by decide) rfl fun X => ?_
  unfold f_X6_turnsOf at h
  show mEv X M_X6_turnsOf 3 _ _ 0 [some (vr ((some o))), some (vi v1), none, none] [] w
  refine ev_iconst (q := 1) (v := (0 : Int32)) dX6_turnsOf_0 rfl (by decide) ?_
  refine ev_istore_n (q := 2) dX6_turnsOf_1 rfl (by decide) ?_
  refine ev_iconst (q := 3) (v := (0 : Int32)) dX6_turnsOf_2 rfl (by decide) ?_
  refine ev_istore_n (q := 4) dX6_turnsOf_3 rfl (by decide) ?_
  replace h := Option.bind_eq_some_iff.mp h; obtain ⟨e3, he3, h⟩ := h
  refine ev_weak _ (mLe_some (mLe_some (mLe_some (mLe_some mLe_nil)))) (e_X6_turnsOf_L4 (fun z => e3 = z) o v1 w (fun e3q hq => ?_) mFuel (0 : Int32) (0 : Int32) _ he3 rfl)
  subst hq
  refine ev_iload_n (q := 31) dX6_turnsOf_30 rfl rfl ?_
  cases h
  exact ev_iret dX6_turnsOf_31 rfl rfl
def f_X11_aimOf_J148 (kc : Int32 → Int32 → Int32 → Option (Int32)) (v2 : Int32) (v3 : Int32) (v5 : Int32) (s0 : Int32) (w : mW) : Option (Int32) := kc v3 s0 (v5 + (1 : Int32))
set_option maxRecDepth 100000 in
set_option maxHeartbeats 4000000 in
theorem e_X11_aimOf_J148 {X : mXs} {r : Option mV} {w' : mW} (P : (Int32) → Prop) (v2 : Int32) (v3 : Int32) (v5 : Int32) (s0 : Int32) (w : mW) (kc : Int32 → Int32 → Int32 → Option (Int32)) (hk : ∀ (u3 : Int32) (u4 : Int32) (u5 : Int32) (e : Int32), kc u3 u4 u5 = some e → P e → mEv X M_X11_aimOf 3 r w' 15 [none, none, some (vi v2), some (vi u3), some (vi u4), some (vi u5), none, none, none, none] [] w) (e : Int32) (h : f_X11_aimOf_J148 kc v2 v3 v5 s0 w = some e) (hP : P e) : mEv X M_X11_aimOf 3 r w' 148 [none, none, some (vi v2), some (vi v3), none, some (vi v5), none, none, none, none] [vi s0] w := by
  unfold f_X11_aimOf_J148 at h
  refine ev_istore (q := 150) dX11_aimOf_148 rfl (by decide) ?_
  refine ev_iinc (q := 153) (v := v5 + (1 : Int32)) dX11_aimOf_150 rfl (by decide) rfl (by rfl) ?_
  refine ev_goto (q := 15) dX11_aimOf_153 (by decide) ?_
  exact ev_weak _ (mLe_none (mLe_none (mLe_some (mLe_some (mLe_some (mLe_some (mLe_none (mLe_none (mLe_none (mLe_none mLe_nil)))))))))) (hk v3 s0 (v5 + (1 : Int32)) _ h hP)
def f_X11_aimOf_J133 (kc : Int32 → Int32 → Int32 → Option (Int32)) (v2 : Int32) (v4 : Int32) (v5 : Int32) (v6 : Int32) (s0 : Int32) (w : mW) : Option (Int32) := if v4 ≤ v6 then (f_X11_aimOf_J148 kc v2 s0 v5 v4 w) else (f_X11_aimOf_J148 kc v2 s0 v5 v6 w)
set_option maxRecDepth 100000 in
set_option maxHeartbeats 4000000 in
theorem e_X11_aimOf_J133 {X : mXs} {r : Option mV} {w' : mW} (P : (Int32) → Prop) (v2 : Int32) (v4 : Int32) (v5 : Int32) (v6 : Int32) (s0 : Int32) (w : mW) (kc : Int32 → Int32 → Int32 → Option (Int32)) (hk : ∀ (u3 : Int32) (u4 : Int32) (u5 : Int32) (e : Int32), kc u3 u4 u5 = some e → P e → mEv X M_X11_aimOf 3 r w' 15 [none, none, some (vi v2), some (vi u3), some (vi u4), some (vi u5), none, none, none, none] [] w) (e : Int32) (h : f_X11_aimOf_J133 kc v2 v4 v5 v6 s0 w = some e) (hP : P e) : mEv X M_X11_aimOf 3 r w' 133 [none, none, some (vi v2), none, some (vi v4), some (vi v5), some (vi v6), none, none, none] [vi s0] w := by
  unfold f_X11_aimOf_J133 at h
  refine ev_istore_n (q := 134) dX11_aimOf_133 rfl (by decide) ?_
  refine ev_iload (q := 136) dX11_aimOf_134 rfl rfl ?_
  refine ev_iload (q := 138) dX11_aimOf_136 rfl rfl ?_
  by_cases hc : v4 ≤ v6
  · rw [if_pos hc] at h
    refine ev_icmp_ge_t (q := 146) dX11_aimOf_138 (by decide) hc ?_
    refine ev_iload (q := 148) dX11_aimOf_146 rfl rfl ?_
    exact ev_weak _ (mLe_none (mLe_none (mLe_some (mLe_some (mLe_none (mLe_some (mLe_none (mLe_none (mLe_none (mLe_none mLe_nil)))))))))) (e_X11_aimOf_J148 P v2 s0 v5 v4 w _ hk  _ h hP)
  · rw [if_neg hc] at h
    refine ev_icmp_ge_f (q := 141) (t0 := 146) dX11_aimOf_138 (by decide) rfl hc ?_
    refine ev_iload (q := 143) dX11_aimOf_141 rfl rfl ?_
    refine ev_goto (q := 148) dX11_aimOf_143 (by decide) ?_
    exact ev_weak _ (mLe_none (mLe_none (mLe_some (mLe_some (mLe_none (mLe_some (mLe_none (mLe_none (mLe_none (mLe_none mLe_nil)))))))))) (e_X11_aimOf_J148 P v2 s0 v5 v6 w _ hk  _ h hP)
def f_X11_aimOf_J112 (kc : Int32 → Int32 → Option (Int32)) (v2 : Int32) (v3 : Int32) (v4 : Int32) (v5 : Int32) (v7 : Int32) (s0 : Int32) (w : mW) : Option (Int32) := kc s0 (v7 + (1 : Int32))
set_option maxRecDepth 100000 in
set_option maxHeartbeats 4000000 in
theorem e_X11_aimOf_J112 {X : mXs} {r : Option mV} {w' : mW} (P : (Int32) → Prop) (v2 : Int32) (v3 : Int32) (v4 : Int32) (v5 : Int32) (v7 : Int32) (s0 : Int32) (w : mW) (kc : Int32 → Int32 → Option (Int32)) (hk : ∀ (u6 : Int32) (u7 : Int32) (e : Int32), kc u6 u7 = some e → P e → mEv X M_X11_aimOf 3 r w' 32 [none, none, some (vi v2), some (vi v3), some (vi v4), some (vi v5), some (vi u6), some (vi u7), none, none] [] w) (e : Int32) (h : f_X11_aimOf_J112 kc v2 v3 v4 v5 v7 s0 w = some e) (hP : P e) : mEv X M_X11_aimOf 3 r w' 112 [none, none, some (vi v2), some (vi v3), some (vi v4), some (vi v5), none, some (vi v7), none, none] [vi s0] w := by
  unfold f_X11_aimOf_J112 at h
  refine ev_istore (q := 114) dX11_aimOf_112 rfl (by decide) ?_
  refine ev_iinc (q := 117) (v := v7 + (1 : Int32)) dX11_aimOf_114 rfl (by decide) rfl (by rfl) ?_
  refine ev_goto (q := 32) dX11_aimOf_117 (by decide) ?_
  exact ev_weak _ (mLe_none (mLe_none (mLe_some (mLe_some (mLe_some (mLe_some (mLe_some (mLe_some (mLe_none (mLe_none mLe_nil)))))))))) (hk s0 (v7 + (1 : Int32)) _ h hP)
def f_X11_aimOf_J110 (kc : Int32 → Int32 → Option (Int32)) (v2 : Int32) (v3 : Int32) (v4 : Int32) (v5 : Int32) (v6 : Int32) (v7 : Int32) (w : mW) : Option (Int32) := f_X11_aimOf_J112 kc v2 v3 v4 v5 v7 v6 w
set_option maxRecDepth 100000 in
set_option maxHeartbeats 4000000 in
theorem e_X11_aimOf_J110 {X : mXs} {r : Option mV} {w' : mW} (P : (Int32) → Prop) (v2 : Int32) (v3 : Int32) (v4 : Int32) (v5 : Int32) (v6 : Int32) (v7 : Int32) (w : mW) (kc : Int32 → Int32 → Option (Int32)) (hk : ∀ (u6 : Int32) (u7 : Int32) (e : Int32), kc u6 u7 = some e → P e → mEv X M_X11_aimOf 3 r w' 32 [none, none, some (vi v2), some (vi v3), some (vi v4), some (vi v5), some (vi u6), some (vi u7), none, none] [] w) (e : Int32) (h : f_X11_aimOf_J110 kc v2 v3 v4 v5 v6 v7 w = some e) (hP : P e) : mEv X M_X11_aimOf 3 r w' 110 [none, none, some (vi v2), some (vi v3), some (vi v4), some (vi v5), some (vi v6), some (vi v7), none, none] [] w := by
  unfold f_X11_aimOf_J110 at h
  refine ev_iload (q := 112) dX11_aimOf_110 rfl rfl ?_
  exact ev_weak _ (mLe_none (mLe_none (mLe_some (mLe_some (mLe_some (mLe_some (mLe_none (mLe_some (mLe_none (mLe_none mLe_nil)))))))))) (e_X11_aimOf_J112 P v2 v3 v4 v5 v7 v6 w _ hk  _ h hP)
def f_X11_aimOf_J79 (kc : Int32 → Int32 → Option (Int32)) (v2 : Int32) (v3 : Int32) (v4 : Int32) (v5 : Int32) (v6 : Int32) (v7 : Int32) (v9 : Int32) (s0 : Int32) (s1 : Int32) (w : mW) : Option (Int32) := kc (s0 + s1) (v9 + (1 : Int32))
set_option maxRecDepth 100000 in
set_option maxHeartbeats 4000000 in
theorem e_X11_aimOf_J79 {X : mXs} {r : Option mV} {w' : mW} (P : (Int32) → Prop) (v2 : Int32) (v3 : Int32) (v4 : Int32) (v5 : Int32) (v6 : Int32) (v7 : Int32) (v9 : Int32) (s0 : Int32) (s1 : Int32) (w : mW) (kc : Int32 → Int32 → Option (Int32)) (hk : ∀ (u8 : Int32) (u9 : Int32) (e : Int32), kc u8 u9 = some e → P e → mEv X M_X11_aimOf 3 r w' 44 [none, none, some (vi v2), some (vi v3), some (vi v4), some (vi v5), some (vi v6), some (vi v7), some (vi u8), some (vi u9)] [] w) (e : Int32) (h : f_X11_aimOf_J79 kc v2 v3 v4 v5 v6 v7 v9 s0 s1 w = some e) (hP : P e) : mEv X M_X11_aimOf 3 r w' 79 [none, none, some (vi v2), some (vi v3), some (vi v4), some (vi v5), some (vi v6), some (vi v7), none, some (vi v9)] [vi s1, vi s0] w := by
  unfold f_X11_aimOf_J79 at h
  refine ev_iadd (q := 80) dX11_aimOf_79 rfl ?_
  refine ev_istore (q := 82) dX11_aimOf_80 rfl (by decide) ?_
  refine ev_iinc (q := 85) (v := v9 + (1 : Int32)) dX11_aimOf_82 rfl (by decide) rfl (by rfl) ?_
  refine ev_goto (q := 44) dX11_aimOf_85 (by decide) ?_
  exact ev_weak _ (mLe_none (mLe_none (mLe_some (mLe_some (mLe_some (mLe_some (mLe_some (mLe_some (mLe_some (mLe_some mLe_nil)))))))))) (hk (s0 + s1) (v9 + (1 : Int32)) _ h hP)
def f_X11_aimOf_L44 (v2 : Int32) (v3 : Int32) (v4 : Int32) (v5 : Int32) (v6 : Int32) (v7 : Int32) (w : mW) : Nat → Int32 → Int32 → Option (Int32)
  | 0, _, _ => none
  | n + 1, v8, v9 => if (5 : Int32) ≤ v9 then (some (v8)) else (Option.bind (f_X11_columnBy v5 v9 w) fun r1 => Option.bind (f_X11_columnBy v5 v7 w) fun r2 => if r1 = r2 then (f_X11_aimOf_J79 (f_X11_aimOf_L44 v2 v3 v4 v5 v6 v7 w n) v2 v3 v4 v5 v6 v7 v9 v8 ((v2 >>> (v9 &&& 31)) &&& (1 : Int32)) w) else (f_X11_aimOf_J79 (f_X11_aimOf_L44 v2 v3 v4 v5 v6 v7 w n) v2 v3 v4 v5 v6 v7 v9 v8 (0 : Int32) w))
set_option maxRecDepth 100000 in
set_option maxHeartbeats 4000000 in
theorem e_X11_aimOf_L44 {X : mXs} {r : Option mV} {w' : mW} (P : (Int32) → Prop) (v2 : Int32) (v3 : Int32) (v4 : Int32) (v5 : Int32) (v6 : Int32) (v7 : Int32) (w : mW) (hexit : ∀ y, P y → mEv X M_X11_aimOf 3 r w' 88 [none, none, some (vi v2), some (vi v3), some (vi v4), some (vi v5), some (vi v6), some (vi v7), some (vi y), none] [] w) : ∀ (n : Nat) (v8 : Int32) (v9 : Int32) (e : Int32), f_X11_aimOf_L44 v2 v3 v4 v5 v6 v7 w n v8 v9 = some e → P e → mEv X M_X11_aimOf 3 r w' 44 [none, none, some (vi v2), some (vi v3), some (vi v4), some (vi v5), some (vi v6), some (vi v7), some (vi v8), some (vi v9)] [] w := by
  intro n
  induction n with
  | zero =>
    intro v8 v9 e h hP
    rw [f_X11_aimOf_L44] at h
    cases h
  | succ n hk =>
    intro v8 v9 e h hP
    rw [f_X11_aimOf_L44] at h
    refine ev_iload (q := 46) dX11_aimOf_44 rfl rfl ?_
    refine ev_iconst (q := 47) (v := (5 : Int32)) dX11_aimOf_46 rfl (by decide) ?_
    by_cases hc : (5 : Int32) ≤ v9
    · rw [if_pos hc] at h
      refine ev_icmp_ge_t (q := 88) dX11_aimOf_47 (by decide) hc ?_
      cases h
      exact ev_weak _ (mLe_none (mLe_none (mLe_some (mLe_some (mLe_some (mLe_some (mLe_some (mLe_some (mLe_some (mLe_none mLe_nil)))))))))) (hexit _ hP)
    · rw [if_neg hc] at h
      refine ev_icmp_ge_f (q := 50) (t0 := 88) dX11_aimOf_47 (by decide) rfl hc ?_
      refine ev_iload (q := 52) dX11_aimOf_50 rfl rfl ?_
      refine ev_iload (q := 54) dX11_aimOf_52 rfl rfl ?_
      refine ev_iload (q := 56) dX11_aimOf_54 rfl rfl ?_
      replace h := Option.bind_eq_some_iff.mp h; obtain ⟨r1, hr1, h⟩ := h
      refine ev_invS (M1 := M_X11_columnBy) (as := [vi v5, vi v9]) dX11_aimOf_56 rfl tw_1083 cal_X11_columnBy tw_1084 (by decide) rfl rfl (Nat.le_of_ble_eq_true rfl) (met_X11_columnBy v5 v9 w _ hr1) ?_
      refine ev_iload (q := 61) dX11_aimOf_59 rfl rfl ?_
      refine ev_iload (q := 63) dX11_aimOf_61 rfl rfl ?_
      replace h := Option.bind_eq_some_iff.mp h; obtain ⟨r2, hr2, h⟩ := h
      refine ev_invS (M1 := M_X11_columnBy) (as := [vi v5, vi v7]) dX11_aimOf_63 rfl tw_1083 cal_X11_columnBy tw_1084 (by decide) rfl rfl (Nat.le_of_ble_eq_true rfl) (met_X11_columnBy v5 v7 w _ hr2) ?_
      by_cases hc : r1 = r2
      · rw [if_pos hc] at h
        refine ev_icmp_ne_f (q := 69) (t0 := 78) dX11_aimOf_66 (by decide) rfl hc ?_
        refine ev_iload_n (q := 70) dX11_aimOf_69 rfl rfl ?_
        refine ev_iload (q := 72) dX11_aimOf_70 rfl rfl ?_
        refine ev_ishr (q := 73) dX11_aimOf_72 rfl ?_
        refine ev_iconst (q := 74) (v := (1 : Int32)) dX11_aimOf_73 rfl (by decide) ?_
        refine ev_iand (q := 75) dX11_aimOf_74 rfl ?_
        refine ev_goto (q := 79) dX11_aimOf_75 (by decide) ?_
        exact ev_weak _ (mLe_none (mLe_none (mLe_some (mLe_some (mLe_some (mLe_some (mLe_some (mLe_some (mLe_none (mLe_some mLe_nil)))))))))) (e_X11_aimOf_J79 P v2 v3 v4 v5 v6 v7 v9 v8 ((v2 >>> (v9 &&& 31)) &&& (1 : Int32)) w _ hk  _ h hP)
      · rw [if_neg hc] at h
        refine ev_icmp_ne_t (q := 78) dX11_aimOf_66 (by decide) hc ?_
        refine ev_iconst (q := 79) (v := (0 : Int32)) dX11_aimOf_78 rfl (by decide) ?_
        exact ev_weak _ (mLe_none (mLe_none (mLe_some (mLe_some (mLe_some (mLe_some (mLe_some (mLe_some (mLe_none (mLe_some mLe_nil)))))))))) (e_X11_aimOf_J79 P v2 v3 v4 v5 v6 v7 v9 v8 (0 : Int32) w _ hk  _ h hP)
def f_X11_aimOf_L32 (v2 : Int32) (v3 : Int32) (v4 : Int32) (v5 : Int32) (w : mW) : Nat → Int32 → Int32 → Option (Int32)
  | 0, _, _ => none
  | n + 1, v6, v7 => if (5 : Int32) ≤ v7 then (some (v6)) else (Option.bind (f_X11_aimOf_L44 v2 v3 v4 v5 v6 v7 w mFuel (0 : Int32) (0 : Int32)) fun e3 => if (v2 >>> (v7 &&& 31)) &&& (1 : Int32) = (1 : Int32) then (if e3 ≤ v6 then (f_X11_aimOf_J110 (f_X11_aimOf_L32 v2 v3 v4 v5 w n) v2 v3 v4 v5 v6 v7 w) else (f_X11_aimOf_J112 (f_X11_aimOf_L32 v2 v3 v4 v5 w n) v2 v3 v4 v5 v7 e3 w)) else (f_X11_aimOf_J110 (f_X11_aimOf_L32 v2 v3 v4 v5 w n) v2 v3 v4 v5 v6 v7 w))
set_option maxRecDepth 100000 in
set_option maxHeartbeats 4000000 in
theorem e_X11_aimOf_L32 {X : mXs} {r : Option mV} {w' : mW} (P : (Int32) → Prop) (v2 : Int32) (v3 : Int32) (v4 : Int32) (v5 : Int32) (w : mW) (hexit : ∀ y, P y → mEv X M_X11_aimOf 3 r w' 120 [none, none, some (vi v2), some (vi v3), some (vi v4), some (vi v5), some (vi y), none, none, none] [] w) : ∀ (n : Nat) (v6 : Int32) (v7 : Int32) (e : Int32), f_X11_aimOf_L32 v2 v3 v4 v5 w n v6 v7 = some e → P e → mEv X M_X11_aimOf 3 r w' 32 [none, none, some (vi v2), some (vi v3), some (vi v4), some (vi v5), some (vi v6), some (vi v7), none, none] [] w := by
  intro n
  induction n with
  | zero =>
    intro v6 v7 e h hP
    rw [f_X11_aimOf_L32] at h
    cases h
  | succ n hk =>
    intro v6 v7 e h hP
    rw [f_X11_aimOf_L32] at h
    refine ev_iload (q := 34) dX11_aimOf_32 rfl rfl ?_
    refine ev_iconst (q := 35) (v := (5 : Int32)) dX11_aimOf_34 rfl (by decide) ?_
    by_cases hc : (5 : Int32) ≤ v7
    · rw [if_pos hc] at h
      refine ev_icmp_ge_t (q := 120) dX11_aimOf_35 (by decide) hc ?_
      cases h
      exact ev_weak _ (mLe_none (mLe_none (mLe_some (mLe_some (mLe_some (mLe_some (mLe_some (mLe_none (mLe_none (mLe_none mLe_nil)))))))))) (hexit _ hP)
    · rw [if_neg hc] at h
      refine ev_icmp_ge_f (q := 38) (t0 := 120) dX11_aimOf_35 (by decide) rfl hc ?_
      refine ev_iconst (q := 39) (v := (0 : Int32)) dX11_aimOf_38 rfl (by decide) ?_
      refine ev_istore (q := 41) dX11_aimOf_39 rfl (by decide) ?_
      refine ev_iconst (q := 42) (v := (0 : Int32)) dX11_aimOf_41 rfl (by decide) ?_
      refine ev_istore (q := 44) dX11_aimOf_42 rfl (by decide) ?_
      replace h := Option.bind_eq_some_iff.mp h; obtain ⟨e3, he3, h⟩ := h
      refine ev_weak _ (mLe_none (mLe_none (mLe_some (mLe_some (mLe_some (mLe_some (mLe_some (mLe_some (mLe_some (mLe_some mLe_nil)))))))))) (e_X11_aimOf_L44 (fun z => e3 = z) v2 v3 v4 v5 v6 v7 w (fun e3q hq => ?_) mFuel (0 : Int32) (0 : Int32) _ he3 rfl)
      subst hq
      refine ev_iload_n (q := 89) dX11_aimOf_88 rfl rfl ?_
      refine ev_iload (q := 91) dX11_aimOf_89 rfl rfl ?_
      refine ev_ishr (q := 92) dX11_aimOf_91 rfl ?_
      refine ev_iconst (q := 93) (v := (1 : Int32)) dX11_aimOf_92 rfl (by decide) ?_
      refine ev_iand (q := 94) dX11_aimOf_93 rfl ?_
      refine ev_iconst (q := 95) (v := (1 : Int32)) dX11_aimOf_94 rfl (by decide) ?_
      by_cases hc : (v2 >>> (v7 &&& 31)) &&& (1 : Int32) = (1 : Int32)
      · rw [if_pos hc] at h
        refine ev_icmp_ne_f (q := 98) (t0 := 110) dX11_aimOf_95 (by decide) rfl hc ?_
        refine ev_iload (q := 100) dX11_aimOf_98 rfl rfl ?_
        refine ev_iload (q := 102) dX11_aimOf_100 rfl rfl ?_
        by_cases hc : e3 ≤ v6
        · rw [if_pos hc] at h
          refine ev_icmp_le_t (q := 110) dX11_aimOf_102 (by decide) hc ?_
          exact ev_weak _ (mLe_none (mLe_none (mLe_some (mLe_some (mLe_some (mLe_some (mLe_some (mLe_some (mLe_none (mLe_none mLe_nil)))))))))) (e_X11_aimOf_J110 P v2 v3 v4 v5 v6 v7 w _ hk  _ h hP)
        · rw [if_neg hc] at h
          refine ev_icmp_le_f (q := 105) (t0 := 110) dX11_aimOf_102 (by decide) rfl hc ?_
          refine ev_iload (q := 107) dX11_aimOf_105 rfl rfl ?_
          refine ev_goto (q := 112) dX11_aimOf_107 (by decide) ?_
          exact ev_weak _ (mLe_none (mLe_none (mLe_some (mLe_some (mLe_some (mLe_some (mLe_none (mLe_some (mLe_none (mLe_none mLe_nil)))))))))) (e_X11_aimOf_J112 P v2 v3 v4 v5 v7 e3 w _ hk  _ h hP)
      · rw [if_neg hc] at h
        refine ev_icmp_ne_t (q := 110) dX11_aimOf_95 (by decide) hc ?_
        exact ev_weak _ (mLe_none (mLe_none (mLe_some (mLe_some (mLe_some (mLe_some (mLe_some (mLe_some (mLe_none (mLe_none mLe_nil)))))))))) (e_X11_aimOf_J110 P v2 v3 v4 v5 v6 v7 w _ hk  _ h hP)
def f_X11_aimOf_L15 (v2 : Int32) (w : mW) : Nat → Int32 → Int32 → Int32 → Option (Int32)
  | 0, _, _, _ => none
  | n + 1, v3, v4, v5 => if (6 : Int32) ≤ v5 then (some (v3)) else (if v2 = 0 then (some (v3)) else (Option.bind (f_X11_aimOf_L32 v2 v3 v4 v5 w mFuel (0 : Int32) (0 : Int32)) fun e4 => if v4 ≤ e4 then (f_X11_aimOf_J133 (f_X11_aimOf_L15 v2 w n) v2 v4 v5 e4 v3 w) else (f_X11_aimOf_J133 (f_X11_aimOf_L15 v2 w n) v2 v4 v5 e4 v5 w)))
set_option maxRecDepth 100000 in
set_option maxHeartbeats 4000000 in
theorem e_X11_aimOf_L15 {X : mXs} {r : Option mV} {w' : mW} (P : (Int32) → Prop) (v2 : Int32) (w : mW) (hexit : ∀ y, P y → mEv X M_X11_aimOf 3 r w' 156 [none, none, none, some (vi y), none, none, none, none, none, none] [] w) : ∀ (n : Nat) (v3 : Int32) (v4 : Int32) (v5 : Int32) (e : Int32), f_X11_aimOf_L15 v2 w n v3 v4 v5 = some e → P e → mEv X M_X11_aimOf 3 r w' 15 [none, none, some (vi v2), some (vi v3), some (vi v4), some (vi v5), none, none, none, none] [] w := by
  intro n
  induction n with
  | zero =>
    intro v3 v4 v5 e h hP
    rw [f_X11_aimOf_L15] at h
    cases h
  | succ n hk =>
    intro v3 v4 v5 e h hP
    rw [f_X11_aimOf_L15] at h
    refine ev_iload (q := 17) dX11_aimOf_15 rfl rfl ?_
    refine ev_bipush (q := 19) (v := (6 : Int32)) dX11_aimOf_17 rfl (by decide) ?_
    by_cases hc : (6 : Int32) ≤ v5
    · rw [if_pos hc] at h
      refine ev_icmp_ge_t (q := 156) dX11_aimOf_19 (by decide) hc ?_
      cases h
      exact ev_weak _ (mLe_none (mLe_none (mLe_none (mLe_some (mLe_none (mLe_none (mLe_none (mLe_none (mLe_none (mLe_none mLe_nil)))))))))) (hexit _ hP)
    · rw [if_neg hc] at h
      refine ev_icmp_ge_f (q := 22) (t0 := 156) dX11_aimOf_19 (by decide) rfl hc ?_
      refine ev_iload_n (q := 23) dX11_aimOf_22 rfl rfl ?_
      by_cases hc : v2 = 0
      · rw [if_pos hc] at h
        refine ev_if_eq_t (q := 156) dX11_aimOf_23 (by decide) hc ?_
        cases h
        exact ev_weak _ (mLe_none (mLe_none (mLe_none (mLe_some (mLe_none (mLe_none (mLe_none (mLe_none (mLe_none (mLe_none mLe_nil)))))))))) (hexit _ hP)
      · rw [if_neg hc] at h
        refine ev_if_eq_f (q := 26) (t0 := 156) dX11_aimOf_23 (by decide) rfl hc ?_
        refine ev_iconst (q := 27) (v := (0 : Int32)) dX11_aimOf_26 rfl (by decide) ?_
        refine ev_istore (q := 29) dX11_aimOf_27 rfl (by decide) ?_
        refine ev_iconst (q := 30) (v := (0 : Int32)) dX11_aimOf_29 rfl (by decide) ?_
        refine ev_istore (q := 32) dX11_aimOf_30 rfl (by decide) ?_
        replace h := Option.bind_eq_some_iff.mp h; obtain ⟨e4, he4, h⟩ := h
        refine ev_weak _ (mLe_none (mLe_none (mLe_some (mLe_some (mLe_some (mLe_some (mLe_some (mLe_some (mLe_none (mLe_none mLe_nil)))))))))) (e_X11_aimOf_L32 (fun z => e4 = z) v2 v3 v4 v5 w (fun e4q hq => ?_) mFuel (0 : Int32) (0 : Int32) _ he4 rfl)
        subst hq
        refine ev_iload (q := 122) dX11_aimOf_120 rfl rfl ?_
        refine ev_iload (q := 124) dX11_aimOf_122 rfl rfl ?_
        by_cases hc : v4 ≤ e4
        · rw [if_pos hc] at h
          refine ev_icmp_ge_t (q := 132) dX11_aimOf_124 (by decide) hc ?_
          refine ev_iload_n (q := 133) dX11_aimOf_132 rfl rfl ?_
          exact ev_weak _ (mLe_none (mLe_none (mLe_some (mLe_none (mLe_some (mLe_some (mLe_some (mLe_none (mLe_none (mLe_none mLe_nil)))))))))) (e_X11_aimOf_J133 P v2 v4 v5 e4 v3 w _ hk  _ h hP)
        · rw [if_neg hc] at h
          refine ev_icmp_ge_f (q := 127) (t0 := 132) dX11_aimOf_124 (by decide) rfl hc ?_
          refine ev_iload (q := 129) dX11_aimOf_127 rfl rfl ?_
          refine ev_goto (q := 133) dX11_aimOf_129 (by decide) ?_
          exact ev_weak _ (mLe_none (mLe_none (mLe_some (mLe_none (mLe_some (mLe_some (mLe_some (mLe_none (mLe_none (mLe_none mLe_nil)))))))))) (e_X11_aimOf_J133 P v2 v4 v5 e4 v5 w _ hk  _ h hP)
def f_X11_aimOf (o : Nat) (v1 : Int32) (w : mW) : Option (Int32) := Option.bind (kO w (some o) 11) fun _ => Option.bind (f_X11_turnsOf o v1 w) fun r5 => Option.bind (f_X11_aimOf_L15 r5 w mFuel (-1 : Int32) (6 : Int32) (0 : Int32)) fun e7 => some (e7)
set_option maxRecDepth 100000 in
set_option maxHeartbeats 4000000 in
theorem met_X11_aimOf (o : Nat) (v1 : Int32) (w : mW) (res : Int32) (h : f_X11_aimOf o v1 w = some res) : mMet M_X11_aimOf 3 [vr ((some o)), vi v1] w (some (vi res)) w := by
  refine ev_met (n := 8) (by decide) rfl fun X => ?_
  unfold f_X11_aimOf at h
  show mEv X M_X11_aimOf 3 _ _ 0 [some (vr ((some o))), some (vi v1), none, none, none, none, none, none, none, none] [] w
  refine ev_aload_n (q := 1) dX11_aimOf_0 rfl rfl ?_
  refine ev_iload_n (q := 2) dX11_aimOf_1 rfl rfl ?_
  replace h := Option.bind_eq_some_iff.mp h; obtain ⟨q6, hq6, h⟩ := h
  obtain ⟨hxq6, fsq6, hkq6⟩ := kO_spec hq6
  cases hxq6
  replace h := Option.bind_eq_some_iff.mp h; obtain ⟨r5, hr5, h⟩ := h
  refine ev_invV (M1 := M_X11_turnsOf) (as := [vi v1]) (fs := fsq6) (ci := 11) dX11_aimOf_2 rfl tw_1079 cal_X11_turnsOf tw_1081 tw_46 (by decide) rfl rfl (Nat.le_of_ble_eq_true rfl) hkq6 rfl (met_X11_turnsOf o v1 w _ hr5) ?_
  refine ev_istore_n (q := 6) dX11_aimOf_5 rfl (by decide) ?_
  refine ev_iconst (q := 7) (v := (-1 : Int32)) dX11_aimOf_6 rfl (by decide) ?_
  refine ev_istore_n (q := 8) dX11_aimOf_7 rfl (by decide) ?_
  refine ev_bipush (q := 10) (v := (6 : Int32)) dX11_aimOf_8 rfl (by decide) ?_
  refine ev_istore (q := 12) dX11_aimOf_10 rfl (by decide) ?_
  refine ev_iconst (q := 13) (v := (0 : Int32)) dX11_aimOf_12 rfl (by decide) ?_
  refine ev_istore (q := 15) dX11_aimOf_13 rfl (by decide) ?_
  replace h := Option.bind_eq_some_iff.mp h; obtain ⟨e7, he7, h⟩ := h
  refine ev_weak _ (mLe_none (mLe_none (mLe_some (mLe_some (mLe_some (mLe_some (mLe_none (mLe_none (mLe_none (mLe_none mLe_nil)))))))))) (e_X11_aimOf_L15 (fun z => e7 = z) r5 w (fun e7q hq => ?_) mFuel (-1 : Int32) (6 : Int32) (0 : Int32) _ he7 rfl)
  subst hq
  refine ev_iload_n (q := 157) dX11_aimOf_156 rfl rfl ?_
  cases h
  exact ev_iret dX11_aimOf_157 rfl rfl
def f_X11_coversCell_J36 (s0 : Int32) (w : mW) : Option (Int32) := if s0 = 0 ∨ s0 = 1 then some (s0) else none
set_option maxRecDepth 100000 in
set_option maxHeartbeats 4000000 in
theorem e_X11_coversCell_J36 {X : mXs} (s0 : Int32) (w : mW) (res : Int32) (h : f_X11_coversCell_J36 s0 w = some res) : mEv X M_X11_coversCell 3 (some (vi res)) w 36 [none, none, none, none, none, none] [vi s0] w := by
  unfold f_X11_coversCell_J36 at h
  by_cases hz : s0 = 0 ∨ s0 = 1
  · rw [if_pos hz] at h
    cases h
    exact ev_zret dX11_coversCell_36 rfl hz
  · rw [if_neg hz] at h
    cases h
def f_X11_coversCell_J35 (w : mW) : Option (Int32) := f_X11_coversCell_J36 (0 : Int32) w
set_option maxRecDepth 100000 in
set_option maxHeartbeats 4000000 in
theorem e_X11_coversCell_J35 {X : mXs} (w : mW) (res : Int32) (h : f_X11_coversCell_J35 w = some res) : mEv X M_X11_coversCell 3 (some (vi res)) w 35 [none, none, none, none, none, none] [] w := by
  unfold f_X11_coversCell_J35 at h
  refine ev_iconst (q := 36) (v := (0 : Int32)) dX11_coversCell_35 rfl (by decide) ?_
  exact ev_weak _ (mLe_none (mLe_none (mLe_none (mLe_none (mLe_none (mLe_none mLe_nil)))))) (e_X11_coversCell_J36 (0 : Int32) w _ h)
def f_X11_coversCell (o : Nat) (v1 : Int32) (v2 : Int32) (v3 : Int32) (v4 : Int32) (w : mW) : Option (Int32) := Option.bind (kO w (some o) 11) fun _ => Option.bind (f_X11_landsBy o v1 v2 v3 w) fun r1 => if r1 = (-1 : Int32) then (f_X11_coversCell_J35 w) else (Option.bind (gR w (some o) 11 14) fun r3 => Option.bind (aL w r3 v1) fun r4 => Option.bind (f_X11_reaches r4 r1 v4 w) fun r5 => if r5 = 0 then (f_X11_coversCell_J35 w) else (f_X11_coversCell_J36 (1 : Int32) w))
set_option maxRecDepth 100000 in
set_option maxHeartbeats 4000000 in
theorem met_X11_coversCell (o : Nat) (v1 : Int32) (v2 : Int32) (v3 : Int32) (v4 : Int32) (w : mW) (res : Int32) (h : f_X11_coversCell o v1 v2 v3 v4 w = some res) : mMet M_X11_coversCell 3 [vr ((some o)), vi v1, vi v2, vi v3, vi v4] w (some (vi res)) w := by
  refine ev_met (n := 1) (by decide) rfl fun X => ?_
  unfold f_X11_coversCell at h
  show mEv X M_X11_coversCell 3 _ _ 0 [some (vr ((some o))), some (vi v1), some (vi v2), some (vi v3), some (vi v4), none] [] w
  refine ev_aload_n (q := 1) dX11_coversCell_0 rfl rfl ?_
  refine ev_iload_n (q := 2) dX11_coversCell_1 rfl rfl ?_
  refine ev_iload_n (q := 3) dX11_coversCell_2 rfl rfl ?_
  refine ev_iload_n (q := 4) dX11_coversCell_3 rfl rfl ?_
  replace h := Option.bind_eq_some_iff.mp h; obtain ⟨q2, hq2, h⟩ := h
  obtain ⟨hxq2, fsq2, hkq2⟩ := kO_spec hq2
  cases hxq2
  replace h := Option.bind_eq_some_iff.mp h; obtain ⟨r1, hr1, h⟩ := h
  refine ev_invV (M1 := M_X11_landsBy) (as := [vi v1, vi v2, vi v3]) (fs := fsq2) (ci := 11) dX11_coversCell_4 rfl tw_1007 cal_X11_landsBy tw_1009 tw_35 (by decide) rfl rfl (Nat.le_of_ble_eq_true rfl) hkq2 rfl (met_X11_landsBy o v1 v2 v3 w _ hr1) ?_
  refine ev_istore (q := 9) dX11_coversCell_7 rfl (by decide) ?_
  refine ev_iload (q := 11) dX11_coversCell_9 rfl rfl ?_
  refine ev_iconst (q := 12) (v := (-1 : Int32)) dX11_coversCell_11 rfl (by decide) ?_
  by_cases hc : r1 = (-1 : Int32)
  · rw [if_pos hc] at h
    refine ev_icmp_eq_t (q := 35) dX11_coversCell_12 (by decide) hc ?_
    exact ev_weak _ (mLe_none (mLe_none (mLe_none (mLe_none (mLe_none (mLe_none mLe_nil)))))) (e_X11_coversCell_J35 w _ h)
  · rw [if_neg hc] at h
    refine ev_icmp_eq_f (q := 15) (t0 := 35) dX11_coversCell_12 (by decide) rfl hc ?_
    refine ev_aload_n (q := 16) dX11_coversCell_15 rfl rfl ?_
    replace h := Option.bind_eq_some_iff.mp h; obtain ⟨r3, hr3, h⟩ := h
    refine ev_gR dX11_coversCell_16 fl_X11_25 hr3 rfl ?_
    refine ev_iload_n (q := 20) dX11_coversCell_19 rfl rfl ?_
    replace h := Option.bind_eq_some_iff.mp h; obtain ⟨r4, hr4, h⟩ := h
    refine ev_aL dX11_coversCell_20 hr4 rfl ?_
    refine ev_iload (q := 23) dX11_coversCell_21 rfl rfl ?_
    refine ev_iload (q := 25) dX11_coversCell_23 rfl rfl ?_
    replace h := Option.bind_eq_some_iff.mp h; obtain ⟨r5, hr5, h⟩ := h
    refine ev_invS (M1 := M_X11_reaches) (as := [vi r4, vi r1, vi v4]) dX11_coversCell_25 rfl tw_1027 cal_X11_reaches tw_1028 (by decide) rfl rfl (Nat.le_of_ble_eq_true rfl) (met_X11_reaches r4 r1 v4 w _ hr5) ?_
    by_cases hc : r5 = 0
    · rw [if_pos hc] at h
      refine ev_if_eq_t (q := 35) dX11_coversCell_28 (by decide) hc ?_
      exact ev_weak _ (mLe_none (mLe_none (mLe_none (mLe_none (mLe_none (mLe_none mLe_nil)))))) (e_X11_coversCell_J35 w _ h)
    · rw [if_neg hc] at h
      refine ev_if_eq_f (q := 31) (t0 := 35) dX11_coversCell_28 (by decide) rfl hc ?_
      refine ev_iconst (q := 32) (v := (1 : Int32)) dX11_coversCell_31 rfl (by decide) ?_
      refine ev_goto (q := 36) dX11_coversCell_32 (by decide) ?_
      exact ev_weak _ (mLe_none (mLe_none (mLe_none (mLe_none (mLe_none (mLe_none mLe_nil)))))) (e_X11_coversCell_J36 (1 : Int32) w _ h)
def f_X11_faultOf_J41 (kc : Int32 → mW → Option (Int32 × mW)) (o : Nat) (v1 : Int32) (w : mW) : Option (Int32 × mW) := kc (v1 + (1 : Int32)) w
set_option maxRecDepth 100000 in
set_option maxHeartbeats 4000000 in
theorem e_X11_faultOf_J41 {X : mXs} {r : Option mV} {w' : mW} (P : (Int32 × mW) → Prop) (o : Nat) (v1 : Int32) (w : mW) (kc : Int32 → mW → Option (Int32 × mW)) (hk : ∀ (u1 : Int32) (uw : mW) (e : Int32 × mW), kc u1 uw = some e → P e → mEv X M_X11_faultOf 3 r w' 7 [some (vr ((some o))), some (vi u1)] [] uw) (e : Int32 × mW) (h : f_X11_faultOf_J41 kc o v1 w = some e) (hP : P e) : mEv X M_X11_faultOf 3 r w' 41 [some (vr ((some o))), some (vi v1)] [] w := by
  unfold f_X11_faultOf_J41 at h
  refine ev_iinc (q := 44) (v := v1 + (1 : Int32)) dX11_faultOf_41 rfl (by decide) rfl (by rfl) ?_
  refine ev_goto (q := 7) dX11_faultOf_44 (by decide) ?_
  exact ev_weak _ (mLe_some (mLe_some mLe_nil)) (hk (v1 + (1 : Int32)) w _ h hP)
def f_X11_faultOf_L7 (o : Nat) : Nat → Int32 → mW → Option (Int32 × mW)
  | 0, _, _ => none
  | n + 1, v1, w => Option.bind (gI w (some o) 11 1) fun r1 => if r1 ≤ v1 then (some ((v1, w))) else (Option.bind (gI w (some o) 11 2) fun r2 => if r2 = 0 then (Option.bind (kO w (some o) 11) fun _ => Option.bind (f_X11_isSleeperLetter o v1 w) fun r5 => if r5.1 = 0 then (some ((v1, r5.2))) else (f_X11_faultOf_J41 (f_X11_faultOf_L7 o n) o v1 r5.2)) else (Option.bind (kO w (some o) 11) fun _ => Option.bind (f_X11_isTosserLetter o v1 w) fun r3 => if r3 = 0 then (some ((v1, w))) else (f_X11_faultOf_J41 (f_X11_faultOf_L7 o n) o v1 w)))
set_option maxRecDepth 100000 in
set_option maxHeartbeats 4000000 in
theorem e_X11_faultOf_L7 {X : mXs} {r : Option mV} {w' : mW} (P : (Int32 × mW) → Prop) (o : Nat) (hexit : ∀ y, P y → mEv X M_X11_faultOf 3 r w' 47 [none, some (vi y.1)] [] y.2) : ∀ (n : Nat) (v1 : Int32) (w : mW) (e : Int32 × mW), f_X11_faultOf_L7 o n v1 w = some e → P e → mEv X M_X11_faultOf 3 r w' 7 [some (vr ((some o))), some (vi v1)] [] w := by
  intro n
  induction n with
  | zero =>
    intro v1 w e h hP
    rw [f_X11_faultOf_L7] at h
    cases h
  | succ n hk =>
    intro v1 w e h hP
    rw [f_X11_faultOf_L7] at h
    refine ev_iload_n (q := 8) dX11_faultOf_7 rfl rfl ?_
    refine ev_aload_n (q := 9) dX11_faultOf_8 rfl rfl ?_
    replace h := Option.bind_eq_some_iff.mp h; obtain ⟨r1, hr1, h⟩ := h
    refine ev_gI dX11_faultOf_9 fl_X11_83 hr1 rfl ?_
    by_cases hc : r1 ≤ v1
    · rw [if_pos hc] at h
      refine ev_icmp_ge_t (q := 47) dX11_faultOf_12 (by decide) hc ?_
      cases h
      exact ev_weak _ (mLe_none (mLe_some mLe_nil)) (hexit _ hP)
    · rw [if_neg hc] at h
      refine ev_icmp_ge_f (q := 15) (t0 := 47) dX11_faultOf_12 (by decide) rfl hc ?_
      refine ev_aload_n (q := 16) dX11_faultOf_15 rfl rfl ?_
      replace h := Option.bind_eq_some_iff.mp h; obtain ⟨r2, hr2, h⟩ := h
      refine ev_gI dX11_faultOf_16 fl_X11_98 hr2 rfl ?_
      by_cases hc : r2 = 0
      · rw [if_pos hc] at h
        refine ev_if_ne_f (q := 22) (t0 := 33) dX11_faultOf_19 (by decide) rfl hc ?_
        refine ev_aload_n (q := 23) dX11_faultOf_22 rfl rfl ?_
        refine ev_iload_n (q := 24) dX11_faultOf_23 rfl rfl ?_
        replace h := Option.bind_eq_some_iff.mp h; obtain ⟨q6, hq6, h⟩ := h
        obtain ⟨hxq6, fsq6, hkq6⟩ := kO_spec hq6
        cases hxq6
        replace h := Option.bind_eq_some_iff.mp h; obtain ⟨r5, hr5, h⟩ := h
        refine ev_invV (M1 := M_X11_isSleeperLetter) (as := [vi v1]) (fs := fsq6) (ci := 11) dX11_faultOf_24 rfl tw_969 cal_X11_isSleeperLetter tw_971 tw_30 (by decide) rfl rfl (Nat.le_of_ble_eq_true rfl) hkq6 rfl (met_X11_isSleeperLetter o v1 w _ hr5) ?_
        by_cases hc : r5.1 = 0
        · rw [if_pos hc] at h
          refine ev_if_eq_t (q := 47) dX11_faultOf_27 (by decide) hc ?_
          cases h
          exact ev_weak _ (mLe_none (mLe_some mLe_nil)) (hexit _ hP)
        · rw [if_neg hc] at h
          refine ev_if_eq_f (q := 30) (t0 := 47) dX11_faultOf_27 (by decide) rfl hc ?_
          refine ev_goto (q := 41) dX11_faultOf_30 (by decide) ?_
          exact ev_weak _ (mLe_some (mLe_some mLe_nil)) (e_X11_faultOf_J41 P o v1 r5.2 _ hk  _ h hP)
      · rw [if_neg hc] at h
        refine ev_if_ne_t (q := 33) dX11_faultOf_19 (by decide) hc ?_
        refine ev_aload_n (q := 34) dX11_faultOf_33 rfl rfl ?_
        refine ev_iload_n (q := 35) dX11_faultOf_34 rfl rfl ?_
        replace h := Option.bind_eq_some_iff.mp h; obtain ⟨q4, hq4, h⟩ := h
        obtain ⟨hxq4, fsq4, hkq4⟩ := kO_spec hq4
        cases hxq4
        replace h := Option.bind_eq_some_iff.mp h; obtain ⟨r3, hr3, h⟩ := h
        refine ev_invV (M1 := M_X11_isTosserLetter) (as := [vi v1]) (fs := fsq4) (ci := 11) dX11_faultOf_35 rfl tw_983 cal_X11_isTosserLetter tw_985 tw_33 (by decide) rfl rfl (Nat.le_of_ble_eq_true rfl) hkq4 rfl (met_X11_isTosserLetter o v1 w _ hr3) ?_
        by_cases hc : r3 = 0
        · rw [if_pos hc] at h
          refine ev_if_eq_t (q := 47) dX11_faultOf_38 (by decide) hc ?_
          cases h
          exact ev_weak _ (mLe_none (mLe_some mLe_nil)) (hexit _ hP)
        · rw [if_neg hc] at h
          refine ev_if_eq_f (q := 41) (t0 := 47) dX11_faultOf_38 (by decide) rfl hc ?_
          exact ev_weak _ (mLe_some (mLe_some mLe_nil)) (e_X11_faultOf_J41 P o v1 w _ hk  _ h hP)
def f_X11_faultOf (o : Nat) (w : mW) : Option (Int32 × mW) := Option.bind (pI w (some o) 11 2 (0 : Int32)) fun w7 => Option.bind (f_X11_faultOf_L7 o mFuel (0 : Int32) w7) fun e8 => some ((e8.1, e8.2))
set_option maxRecDepth 100000 in
set_option maxHeartbeats 4000000 in
theorem met_X11_faultOf (o : Nat) (w : mW) (res : Int32 × mW) (h : f_X11_faultOf o w = some res) : mMet M_X11_faultOf 3 [vr ((some o))] w (some (vi res.1)) res.2 := by
  refine ev_met (n := 1) (by decide) rfl fun X => ?_
  unfold f_X11_faultOf at h
  show mEv X M_X11_faultOf 3 _ _ 0 [some (vr ((some o))), none] [] w
  refine ev_aload_n (q := 1) dX11_faultOf_0 rfl rfl ?_
  refine ev_iconst (q := 2) (v := (0 : Int32)) dX11_faultOf_1 rfl (by decide) ?_
  replace h := Option.bind_eq_some_iff.mp h; obtain ⟨w7, hw7, h⟩ := h
  refine ev_pI dX11_faultOf_2 fp_X11_98 hw7 rfl ?_
  refine ev_iconst (q := 6) (v := (0 : Int32)) dX11_faultOf_5 rfl (by decide) ?_
  refine ev_istore_n (q := 7) dX11_faultOf_6 rfl (by decide) ?_
  replace h := Option.bind_eq_some_iff.mp h; obtain ⟨e8, he8, h⟩ := h
  refine ev_weak _ (mLe_some (mLe_some mLe_nil)) (e_X11_faultOf_L7 (fun z => e8 = z) o (fun e8q hq => ?_) mFuel (0 : Int32) w7 _ he8 rfl)
  subst hq
  refine ev_iload_n (q := 48) dX11_faultOf_47 rfl rfl ?_
  cases h
  exact ev_iret dX11_faultOf_48 rfl rfl
def f_X11_lands_J30 (s0 : Int32) (w : mW) : Option (Int32) := some (s0)
set_option maxRecDepth 100000 in
set_option maxHeartbeats 4000000 in
theorem e_X11_lands_J30 {X : mXs} (s0 : Int32) (w : mW) (res : Int32) (h : f_X11_lands_J30 s0 w = some res) : mEv X M_X11_lands 3 (some (vi res)) w 30 [none, none, none] [vi s0] w := by
  unfold f_X11_lands_J30 at h
  cases h
  exact ev_iret dX11_lands_30 rfl rfl
def f_X11_lands_J28 (w : mW) : Option (Int32) := f_X11_lands_J30 (-101 : Int32) w
set_option maxRecDepth 100000 in
set_option maxHeartbeats 4000000 in
theorem e_X11_lands_J28 {X : mXs} (w : mW) (res : Int32) (h : f_X11_lands_J28 w = some res) : mEv X M_X11_lands 3 (some (vi res)) w 28 [none, none, none] [] w := by
  unfold f_X11_lands_J28 at h
  refine ev_bipush (q := 30) (v := (-101 : Int32)) dX11_lands_28 rfl (by decide) ?_
  exact ev_weak _ (mLe_none (mLe_none (mLe_none mLe_nil))) (e_X11_lands_J30 (-101 : Int32) w _ h)
def f_X11_lands (o : Nat) (v1 : Int32) (v2 : Int32) (w : mW) : Option (Int32) := Option.bind (kO w (some o) 11) fun _ => Option.bind (f_X11_isTosser o v1 w) fun r1 => if r1 = 0 then (f_X11_lands_J28 w) else (Option.bind (f_X11_isCell v2 w) fun r3 => if r3 = 0 then (f_X11_lands_J28 w) else (Option.bind (gI w (some o) 11 5) fun r4 => Option.bind (kO w (some o) 11) fun _ => Option.bind (f_X11_landsBy o v1 v2 r4 w) fun r5 => f_X11_lands_J30 r5 w))
set_option maxRecDepth 100000 in
set_option maxHeartbeats 4000000 in
theorem met_X11_lands (o : Nat) (v1 : Int32) (v2 : Int32) (w : mW) (res : Int32) (h : f_X11_lands o v1 v2 w = some res) : mMet M_X11_lands 3 [vr ((some o)), vi v1, vi v2] w (some (vi res)) w := by
  refine ev_met (n := 0) (by decide) rfl fun X => ?_
  unfold f_X11_lands at h
  show mEv X M_X11_lands 3 _ _ 0 [some (vr ((some o))), some (vi v1), some (vi v2)] [] w
  refine ev_aload_n (q := 1) dX11_lands_0 rfl rfl ?_
  refine ev_iload_n (q := 2) dX11_lands_1 rfl rfl ?_
  replace h := Option.bind_eq_some_iff.mp h; obtain ⟨q2, hq2, h⟩ := h
  obtain ⟨hxq2, fsq2, hkq2⟩ := kO_spec hq2
  cases hxq2
  replace h := Option.bind_eq_some_iff.mp h; obtain ⟨r1, hr1, h⟩ := h
  refine ev_invV (M1 := M_X11_isTosser) (as := [vi v1]) (fs := fsq2) (ci := 11) dX11_lands_2 rfl tw_999 cal_X11_isTosser tw_1001 tw_34 (by decide) rfl rfl (Nat.le_of_ble_eq_true rfl) hkq2 rfl (met_X11_isTosser o v1 w _ hr1) ?_
  by_cases hc : r1 = 0
  · rw [if_pos hc] at h
    refine ev_if_eq_t (q := 28) dX11_lands_5 (by decide) hc ?_
    exact ev_weak _ (mLe_none (mLe_none (mLe_none mLe_nil))) (e_X11_lands_J28 w _ h)
  · rw [if_neg hc] at h
    refine ev_if_eq_f (q := 8) (t0 := 28) dX11_lands_5 (by decide) rfl hc ?_
    refine ev_iload_n (q := 9) dX11_lands_8 rfl rfl ?_
    replace h := Option.bind_eq_some_iff.mp h; obtain ⟨r3, hr3, h⟩ := h
    refine ev_invS (M1 := M_X11_isCell) (as := [vi v2]) dX11_lands_9 rfl tw_1003 cal_X11_isCell tw_1004 (by decide) rfl rfl (Nat.le_of_ble_eq_true rfl) (met_X11_isCell v2 w _ hr3) ?_
    by_cases hc : r3 = 0
    · rw [if_pos hc] at h
      refine ev_if_eq_t (q := 28) dX11_lands_12 (by decide) hc ?_
      exact ev_weak _ (mLe_none (mLe_none (mLe_none mLe_nil))) (e_X11_lands_J28 w _ h)
    · rw [if_neg hc] at h
      refine ev_if_eq_f (q := 15) (t0 := 28) dX11_lands_12 (by decide) rfl hc ?_
      refine ev_aload_n (q := 16) dX11_lands_15 rfl rfl ?_
      refine ev_iload_n (q := 17) dX11_lands_16 rfl rfl ?_
      refine ev_iload_n (q := 18) dX11_lands_17 rfl rfl ?_
      refine ev_aload_n (q := 19) dX11_lands_18 rfl rfl ?_
      replace h := Option.bind_eq_some_iff.mp h; obtain ⟨r4, hr4, h⟩ := h
      refine ev_gI dX11_lands_19 fl_X11_122 hr4 rfl ?_
      replace h := Option.bind_eq_some_iff.mp h; obtain ⟨q6, hq6, h⟩ := h
      obtain ⟨hxq6, fsq6, hkq6⟩ := kO_spec hq6
      cases hxq6
      replace h := Option.bind_eq_some_iff.mp h; obtain ⟨r5, hr5, h⟩ := h
      refine ev_invV (M1 := M_X11_landsBy) (as := [vi v1, vi v2, vi r4]) (fs := fsq6) (ci := 11) dX11_lands_22 rfl tw_1007 cal_X11_landsBy tw_1009 tw_35 (by decide) rfl rfl (Nat.le_of_ble_eq_true rfl) hkq6 rfl (met_X11_landsBy o v1 v2 r4 w _ hr5) ?_
      refine ev_goto (q := 30) dX11_lands_25 (by decide) ?_
      exact ev_weak _ (mLe_none (mLe_none (mLe_none mLe_nil))) (e_X11_lands_J30 r5 w _ h)
def f_X11_whoOf_J45 (kc : Int32 → Int32 → Option (Int32)) (o : Nat) (v1 : Int32) (v3 : Int32) (v4 : Int32) (s0 : Int32) (s1 : Int32) (w : mW) : Option (Int32) := kc (s0 ||| s1) (v4 + (1 : Int32))
set_option maxRecDepth 100000 in
set_option maxHeartbeats 4000000 in
theorem e_X11_whoOf_J45 {X : mXs} {r : Option mV} {w' : mW} (P : (Int32) → Prop) (o : Nat) (v1 : Int32) (v3 : Int32) (v4 : Int32) (s0 : Int32) (s1 : Int32) (w : mW) (kc : Int32 → Int32 → Option (Int32)) (hk : ∀ (u2 : Int32) (u4 : Int32) (e : Int32), kc u2 u4 = some e → P e → mEv X M_X11_whoOf 3 r w' 15 [some (vr ((some o))), some (vi v1), some (vi u2), some (vi v3), some (vi u4)] [] w) (e : Int32) (h : f_X11_whoOf_J45 kc o v1 v3 v4 s0 s1 w = some e) (hP : P e) : mEv X M_X11_whoOf 3 r w' 45 [some (vr ((some o))), some (vi v1), none, some (vi v3), some (vi v4)] [vi s1, vi s0] w := by
  unfold f_X11_whoOf_J45 at h
  refine ev_ior (q := 46) dX11_whoOf_45 rfl ?_
  refine ev_istore_n (q := 47) dX11_whoOf_46 rfl (by decide) ?_
  refine ev_iinc (q := 50) (v := v4 + (1 : Int32)) dX11_whoOf_47 rfl (by decide) rfl (by rfl) ?_
  refine ev_goto (q := 15) dX11_whoOf_50 (by decide) ?_
  exact ev_weak _ (mLe_some (mLe_some (mLe_some (mLe_some (mLe_some mLe_nil))))) (hk (s0 ||| s1) (v4 + (1 : Int32)) _ h hP)
def f_X11_whoOf_L15 (o : Nat) (v1 : Int32) (v3 : Int32) (w : mW) : Nat → Int32 → Int32 → Option (Int32)
  | 0, _, _ => none
  | n + 1, v2, v4 => if (36 : Int32) ≤ v4 then (some (v2)) else (Option.bind (gI w (some o) 11 5) fun r1 => Option.bind (kO w (some o) 11) fun _ => Option.bind (f_X11_landsBy o v3 v4 r1 w) fun r2 => if r2 = v1 then (f_X11_whoOf_J45 (f_X11_whoOf_L15 o v1 v3 w n) o v1 v3 v4 v2 ((1 : Int32) <<< (v3 &&& 31)) w) else (f_X11_whoOf_J45 (f_X11_whoOf_L15 o v1 v3 w n) o v1 v3 v4 v2 (0 : Int32) w))
set_option maxRecDepth 100000 in
set_option maxHeartbeats 4000000 in
theorem e_X11_whoOf_L15 {X : mXs} {r : Option mV} {w' : mW} (P : (Int32) → Prop) (o : Nat) (v1 : Int32) (v3 : Int32) (w : mW) (hexit : ∀ y, P y → mEv X M_X11_whoOf 3 r w' 53 [some (vr ((some o))), some (vi v1), some (vi y), some (vi v3), none] [] w) : ∀ (n : Nat) (v2 : Int32) (v4 : Int32) (e : Int32), f_X11_whoOf_L15 o v1 v3 w n v2 v4 = some e → P e → mEv X M_X11_whoOf 3 r w' 15 [some (vr ((some o))), some (vi v1), some (vi v2), some (vi v3), some (vi v4)] [] w := by
  intro n
  induction n with
  | zero =>
    intro v2 v4 e h hP
    rw [f_X11_whoOf_L15] at h
    cases h
  | succ n hk =>
    intro v2 v4 e h hP
    rw [f_X11_whoOf_L15] at h
    refine ev_iload (q := 17) dX11_whoOf_15 rfl rfl ?_
    refine ev_bipush (q := 19) (v := (36 : Int32)) dX11_whoOf_17 rfl (by decide) ?_
    by_cases hc : (36 : Int32) ≤ v4
    · rw [if_pos hc] at h
      refine ev_icmp_ge_t (q := 53) dX11_whoOf_19 (by decide) hc ?_
      cases h
      exact ev_weak _ (mLe_some (mLe_some (mLe_some (mLe_some (mLe_none mLe_nil))))) (hexit _ hP)
    · rw [if_neg hc] at h
      refine ev_icmp_ge_f (q := 22) (t0 := 53) dX11_whoOf_19 (by decide) rfl hc ?_
      refine ev_iload_n (q := 23) dX11_whoOf_22 rfl rfl ?_
      refine ev_aload_n (q := 24) dX11_whoOf_23 rfl rfl ?_
      refine ev_iload_n (q := 25) dX11_whoOf_24 rfl rfl ?_
      refine ev_iload (q := 27) dX11_whoOf_25 rfl rfl ?_
      refine ev_aload_n (q := 28) dX11_whoOf_27 rfl rfl ?_
      replace h := Option.bind_eq_some_iff.mp h; obtain ⟨r1, hr1, h⟩ := h
      refine ev_gI dX11_whoOf_28 fl_X11_122 hr1 rfl ?_
      replace h := Option.bind_eq_some_iff.mp h; obtain ⟨q3, hq3, h⟩ := h
      obtain ⟨hxq3, fsq3, hkq3⟩ := kO_spec hq3
      cases hxq3
      replace h := Option.bind_eq_some_iff.mp h; obtain ⟨r2, hr2, h⟩ := h
      refine ev_invV (M1 := M_X11_landsBy) (as := [vi v3, vi v4, vi r1]) (fs := fsq3) (ci := 11) dX11_whoOf_31 rfl tw_1007 cal_X11_landsBy tw_1009 tw_35 (by decide) rfl rfl (Nat.le_of_ble_eq_true rfl) hkq3 rfl (met_X11_landsBy o v3 v4 r1 w _ hr2) ?_
      refine ev_iload_n (q := 35) dX11_whoOf_34 rfl rfl ?_
      by_cases hc : r2 = v1
      · rw [if_pos hc] at h
        refine ev_icmp_ne_f (q := 38) (t0 := 44) dX11_whoOf_35 (by decide) rfl hc ?_
        refine ev_iconst (q := 39) (v := (1 : Int32)) dX11_whoOf_38 rfl (by decide) ?_
        refine ev_iload_n (q := 40) dX11_whoOf_39 rfl rfl ?_
        refine ev_ishl (q := 41) dX11_whoOf_40 rfl ?_
        refine ev_goto (q := 45) dX11_whoOf_41 (by decide) ?_
        exact ev_weak _ (mLe_some (mLe_some (mLe_none (mLe_some (mLe_some mLe_nil))))) (e_X11_whoOf_J45 P o v1 v3 v4 v2 ((1 : Int32) <<< (v3 &&& 31)) w _ hk  _ h hP)
      · rw [if_neg hc] at h
        refine ev_icmp_ne_t (q := 44) dX11_whoOf_35 (by decide) hc ?_
        refine ev_iconst (q := 45) (v := (0 : Int32)) dX11_whoOf_44 rfl (by decide) ?_
        exact ev_weak _ (mLe_some (mLe_some (mLe_none (mLe_some (mLe_some mLe_nil))))) (e_X11_whoOf_J45 P o v1 v3 v4 v2 (0 : Int32) w _ hk  _ h hP)
def f_X11_whoOf_L4 (o : Nat) (v1 : Int32) (w : mW) : Nat → Int32 → Int32 → Option (Int32)
  | 0, _, _ => none
  | n + 1, v2, v3 => Option.bind (gI w (some o) 11 4) fun r4 => if r4 ≤ v3 then (some (v2)) else (Option.bind (f_X11_whoOf_L15 o v1 v3 w mFuel v2 (0 : Int32)) fun e5 => (f_X11_whoOf_L4 o v1 w n) e5 (v3 + (1 : Int32)))
set_option maxRecDepth 100000 in
set_option maxHeartbeats 4000000 in
theorem e_X11_whoOf_L4 {X : mXs} {r : Option mV} {w' : mW} (P : (Int32) → Prop) (o : Nat) (v1 : Int32) (w : mW) (hexit : ∀ y, P y → mEv X M_X11_whoOf 3 r w' 59 [none, none, some (vi y), none, none] [] w) : ∀ (n : Nat) (v2 : Int32) (v3 : Int32) (e : Int32), f_X11_whoOf_L4 o v1 w n v2 v3 = some e → P e → mEv X M_X11_whoOf 3 r w' 4 [some (vr ((some o))), some (vi v1), some (vi v2), some (vi v3), none] [] w := by
  intro n
  induction n with
  | zero =>
    intro v2 v3 e h hP
    rw [f_X11_whoOf_L4] at h
    cases h
  | succ n hk =>
    intro v2 v3 e h hP
    rw [f_X11_whoOf_L4] at h
    refine ev_iload_n (q := 5) dX11_whoOf_4 rfl rfl ?_
    refine ev_aload_n (q := 6) dX11_whoOf_5 rfl rfl ?_
    replace h := Option.bind_eq_some_iff.mp h; obtain ⟨r4, hr4, h⟩ := h
    refine ev_gI dX11_whoOf_6 fl_X11_119 hr4 rfl ?_
    by_cases hc : r4 ≤ v3
    · rw [if_pos hc] at h
      refine ev_icmp_ge_t (q := 59) dX11_whoOf_9 (by decide) hc ?_
      cases h
      exact ev_weak _ (mLe_none (mLe_none (mLe_some (mLe_none (mLe_none mLe_nil))))) (hexit _ hP)
    · rw [if_neg hc] at h
      refine ev_icmp_ge_f (q := 12) (t0 := 59) dX11_whoOf_9 (by decide) rfl hc ?_
      refine ev_iconst (q := 13) (v := (0 : Int32)) dX11_whoOf_12 rfl (by decide) ?_
      refine ev_istore (q := 15) dX11_whoOf_13 rfl (by decide) ?_
      replace h := Option.bind_eq_some_iff.mp h; obtain ⟨e5, he5, h⟩ := h
      refine ev_weak _ (mLe_some (mLe_some (mLe_some (mLe_some (mLe_some mLe_nil))))) (e_X11_whoOf_L15 (fun z => e5 = z) o v1 v3 w (fun e5q hq => ?_) mFuel v2 (0 : Int32) _ he5 rfl)
      subst hq
      refine ev_iinc (q := 56) (v := v3 + (1 : Int32)) dX11_whoOf_53 rfl (by decide) rfl (by rfl) ?_
      refine ev_goto (q := 4) dX11_whoOf_56 (by decide) ?_
      exact ev_weak _ (mLe_some (mLe_some (mLe_some (mLe_some (mLe_none mLe_nil))))) (hk e5 (v3 + (1 : Int32)) _ h hP)
def f_X11_whoOf (o : Nat) (v1 : Int32) (w : mW) : Option (Int32) := Option.bind (f_X11_whoOf_L4 o v1 w mFuel (0 : Int32) (0 : Int32)) fun e6 => some (e6)
set_option maxRecDepth 100000 in
set_option maxHeartbeats 4000000 in
theorem met_X11_whoOf (o : Nat) (v1 : Int32) (w : mW) (res : Int32) (h : f_X11_whoOf o v1 w = some res) : mMet M_X11_whoOf 3 [vr ((some o)), vi v1] w (some (vi res)) w := by
  refine ev_met (n := 3) (by decide) rfl fun X => ?_
  unfold f_X11_whoOf at h
  show mEv X M_X11_whoOf 3 _ _ 0 [some (vr ((some o))), some (vi v1), none, none, none] [] w
  refine ev_iconst (q := 1) (v := (0 : Int32)) dX11_whoOf_0 rfl (by decide) ?_
  refine ev_istore_n (q := 2) dX11_whoOf_1 rfl (by decide) ?_
  refine ev_iconst (q := 3) (v := (0 : Int32)) dX11_whoOf_2 rfl (by decide) ?_
  refine ev_istore_n (q := 4) dX11_whoOf_3 rfl (by decide) ?_
  replace h := Option.bind_eq_some_iff.mp h; obtain ⟨e6, he6, h⟩ := h
  refine ev_weak _ (mLe_some (mLe_some (mLe_some (mLe_some (mLe_none mLe_nil))))) (e_X11_whoOf_L4 (fun z => e6 = z) o v1 w (fun e6q hq => ?_) mFuel (0 : Int32) (0 : Int32) _ he6 rfl)
  subst hq
  refine ev_iload_n (q := 60) dX11_whoOf_59 rfl rfl ?_
  cases h
  exact ev_iret dX11_whoOf_60 rfl rfl
def f_J0_indexOf_0f7a4 (v1 : Int32) (w : mW) : Option (Int32) := Option.bind (f_J0_indexOf_7cf53 v1 (0 : Int32) w) fun r1 => some (r1)
set_option maxRecDepth 100000 in
set_option maxHeartbeats 4000000 in
theorem met_J0_indexOf_0f7a4 (v1 : Int32) (w : mW) (res : Int32) (h : f_J0_indexOf_0f7a4 v1 w = some res) : mMet M_J0_indexOf_0f7a4 3 [vx 1, vi v1] w (some (vi res)) w := by
  refine ev_met (n := 0) (by decide) rfl fun X => ?_
  unfold f_J0_indexOf_0f7a4 at h
  show mEv X M_J0_indexOf_0f7a4 3 _ _ 0 [some (vx 1), some (vi v1)] [] w
  refine ev_aload_n (q := 1) dJ0_indexOf_0f7a4_0 rfl rfl ?_
  refine ev_iload_n (q := 2) dJ0_indexOf_0f7a4_1 rfl rfl ?_
  refine ev_iconst (q := 3) (v := (0 : Int32)) dJ0_indexOf_0f7a4_2 rfl (by decide) ?_
  replace h := Option.bind_eq_some_iff.mp h; obtain ⟨r1, hr1, h⟩ := h
  refine ev_invStr (M1 := M_J0_indexOf_7cf53) (as := [vi v1, vi ((0 : Int32))]) dJ0_indexOf_0f7a4_3 rfl tw_339 rfl cal_J0_indexOf_7cf53 tw_340 tw_341 (by decide) rfl rfl (Nat.le_of_ble_eq_true rfl) (met_J0_indexOf_7cf53 v1 (0 : Int32) w _ hr1) ?_
  cases h
  exact ev_iret dJ0_indexOf_0f7a4_6 rfl rfl
def f_X10_countChances_J63 (kc : Int32 → mW → Option (mW)) (o : Nat) (v1 : Int32) (v2 : Option Nat) (v3 : Int32) (w : mW) : Option (mW) := kc (v3 + (1 : Int32)) w
set_option maxRecDepth 100000 in
set_option maxHeartbeats 4000000 in
theorem e_X10_countChances_J63 {X : mXs} {r : Option mV} {w' : mW} (P : (mW) → Prop) (o : Nat) (v1 : Int32) (v2 : Option Nat) (v3 : Int32) (w : mW) (kc : Int32 → mW → Option (mW)) (hk : ∀ (u3 : Int32) (uw : mW) (e : mW), kc u3 uw = some e → P e → mEv X M_X10_countChances 4 r w' 25 [some (vr ((some o))), some (vi v1), some (vr v2), some (vi u3), none] [] uw) (e : mW) (h : f_X10_countChances_J63 kc o v1 v2 v3 w = some e) (hP : P e) : mEv X M_X10_countChances 4 r w' 63 [some (vr ((some o))), some (vi v1), some (vr v2), some (vi v3), none] [] w := by
  unfold f_X10_countChances_J63 at h
  refine ev_iinc (q := 66) (v := v3 + (1 : Int32)) dX10_countChances_63 rfl (by decide) rfl (by rfl) ?_
  refine ev_goto (q := 25) dX10_countChances_66 (by decide) ?_
  exact ev_weak _ (mLe_some (mLe_some (mLe_some (mLe_some (mLe_none mLe_nil))))) (hk (v3 + (1 : Int32)) w _ h hP)
def f_X10_countChances_L25 (o : Nat) (v1 : Int32) (v2 : Option Nat) : Nat → Int32 → mW → Option (mW)
  | 0, _, _ => none
  | n + 1, v3, w => if (36 : Int32) ≤ v3 then (some (w)) else (Option.bind (gR w (some o) 10 3) fun r1 => Option.bind (gI w r1 2 8) fun r2 => Option.bind (kO w (some o) 10) fun _ => Option.bind (f_X10_landing o v1 v3 r2 w) fun r3 => oC v2 (f_X10_countChances_J63 (f_X10_countChances_L25 o v1 v2 n) o v1 none v3 w) (fun a5 => if r3 = (-1 : Int32) then (f_X10_countChances_J63 (f_X10_countChances_L25 o v1 v2 n) o v1 (some a5) v3 w) else (Option.bind (kO w (some o) 10) fun _ => Option.bind (f_X10_addChances o (some a5) r3 w) fun w6 => f_X10_countChances_J63 (f_X10_countChances_L25 o v1 v2 n) o v1 (some a5) v3 w6)))
set_option maxRecDepth 100000 in
set_option maxHeartbeats 4000000 in
theorem e_X10_countChances_L25 {X : mXs} {r : Option mV} {w' : mW} (P : (mW) → Prop) (o : Nat) (v1 : Int32) (v2 : Option Nat) (hexit : ∀ y, P y → mEv X M_X10_countChances 4 r w' 69 [some (vr ((some o))), some (vi v1), none, none, none] [] y) : ∀ (n : Nat) (v3 : Int32) (w : mW) (e : mW), f_X10_countChances_L25 o v1 v2 n v3 w = some e → P e → mEv X M_X10_countChances 4 r w' 25 [some (vr ((some o))), some (vi v1), some (vr v2), some (vi v3), none] [] w := by
  intro n
  induction n with
  | zero =>
    intro v3 w e h hP
    rw [f_X10_countChances_L25] at h
    cases h
  | succ n hk =>
    intro v3 w e h hP
    rw [f_X10_countChances_L25] at h
    refine ev_iload_n (q := 26) dX10_countChances_25 rfl rfl ?_
    refine ev_bipush (q := 28) (v := (36 : Int32)) dX10_countChances_26 rfl (by decide) ?_
    by_cases hc : (36 : Int32) ≤ v3
    · rw [if_pos hc] at h
      refine ev_icmp_ge_t (q := 69) dX10_countChances_28 (by decide) hc ?_
      cases h
      exact ev_weak _ (mLe_some (mLe_some (mLe_none (mLe_none (mLe_none mLe_nil))))) (hexit _ hP)
    · rw [if_neg hc] at h
      refine ev_icmp_ge_f (q := 31) (t0 := 69) dX10_countChances_28 (by decide) rfl hc ?_
      refine ev_aload_n (q := 32) dX10_countChances_31 rfl rfl ?_
      refine ev_iload_n (q := 33) dX10_countChances_32 rfl rfl ?_
      refine ev_iload_n (q := 34) dX10_countChances_33 rfl rfl ?_
      refine ev_aload_n (q := 35) dX10_countChances_34 rfl rfl ?_
      replace h := Option.bind_eq_some_iff.mp h; obtain ⟨r1, hr1, h⟩ := h
      refine ev_gR dX10_countChances_35 fl_X10_32 hr1 rfl ?_
      replace h := Option.bind_eq_some_iff.mp h; obtain ⟨r2, hr2, h⟩ := h
      refine ev_gI dX10_countChances_38 fl_X10_146 hr2 rfl ?_
      replace h := Option.bind_eq_some_iff.mp h; obtain ⟨q4, hq4, h⟩ := h
      obtain ⟨hxq4, fsq4, hkq4⟩ := kO_spec hq4
      cases hxq4
      replace h := Option.bind_eq_some_iff.mp h; obtain ⟨r3, hr3, h⟩ := h
      refine ev_invV (M1 := M_X10_landing) (as := [vi v1, vi v3, vi r2]) (fs := fsq4) (ci := 10) dX10_countChances_41 rfl tw_519 cal_X10_landing tw_521 tw_13 (by decide) rfl rfl (Nat.le_of_ble_eq_true rfl) hkq4 rfl (met_X10_landing o v1 v3 r2 w _ hr3) ?_
      refine ev_istore (q := 46) dX10_countChances_44 rfl (by decide) ?_
      refine ev_aload_n (q := 47) dX10_countChances_46 rfl rfl ?_
      rcases v2 with _ | a5
      · dsimp only [oC] at h
        refine ev_ifnull_t (q := 63) dX10_countChances_47 (by decide) ?_
        exact ev_weak _ (mLe_some (mLe_some (mLe_some (mLe_some (mLe_none mLe_nil))))) (e_X10_countChances_J63 P o v1 none v3 w _ hk  _ h hP)
      · dsimp only [oC] at h
        refine ev_ifnull_f (q := 50) dX10_countChances_47 rfl ?_
        refine ev_iload (q := 52) dX10_countChances_50 rfl rfl ?_
        refine ev_iconst (q := 53) (v := (-1 : Int32)) dX10_countChances_52 rfl (by decide) ?_
        by_cases hc : r3 = (-1 : Int32)
        · rw [if_pos hc] at h
          refine ev_icmp_eq_t (q := 63) dX10_countChances_53 (by decide) hc ?_
          exact ev_weak _ (mLe_some (mLe_some (mLe_some (mLe_some (mLe_none mLe_nil))))) (e_X10_countChances_J63 P o v1 (some a5) v3 w _ hk  _ h hP)
        · rw [if_neg hc] at h
          refine ev_icmp_eq_f (q := 56) (t0 := 63) dX10_countChances_53 (by decide) rfl hc ?_
          refine ev_aload_n (q := 57) dX10_countChances_56 rfl rfl ?_
          refine ev_aload_n (q := 58) dX10_countChances_57 rfl rfl ?_
          refine ev_iload (q := 60) dX10_countChances_58 rfl rfl ?_
          replace h := Option.bind_eq_some_iff.mp h; obtain ⟨q7, hq7, h⟩ := h
          obtain ⟨hxq7, fsq7, hkq7⟩ := kO_spec hq7
          cases hxq7
          replace h := Option.bind_eq_some_iff.mp h; obtain ⟨w6, hw6, h⟩ := h
          refine ev_invV (M1 := M_X10_addChances) (as := [vr ((some a5)), vi r3]) (fs := fsq7) (ci := 10) dX10_countChances_60 rfl tw_524 cal_X10_addChances tw_526 tw_14 (by decide) rfl rfl (Nat.le_of_ble_eq_true rfl) hkq7 rfl (met_X10_addChances o (some a5) r3 w _ hw6) ?_
          exact ev_weak _ (mLe_some (mLe_some (mLe_some (mLe_some (mLe_none mLe_nil))))) (e_X10_countChances_J63 P o v1 (some a5) v3 w6 _ hk  _ h hP)
def f_X10_countChances_L9 (o : Nat) : Nat → Int32 → mW → Option (mW)
  | 0, _, _ => none
  | n + 1, v1, w => Option.bind (gI w (some o) 10 8) fun r8 => if r8 ≤ v1 then (some (w)) else (Option.bind (kO w (some o) 10) fun _ => Option.bind (f_X10_tosserAt o v1 w) fun r9 => Option.bind (f_X10_countChances_L25 o v1 r9 mFuel (0 : Int32) w) fun e11 => (f_X10_countChances_L9 o n) (v1 + (1 : Int32)) e11)
set_option maxRecDepth 100000 in
set_option maxHeartbeats 4000000 in
theorem e_X10_countChances_L9 {X : mXs} {r : Option mV} {w' : mW} (P : (mW) → Prop) (o : Nat) (hexit : ∀ y, P y → mEv X M_X10_countChances 4 r w' 75 [none, none, none, none, none] [] y) : ∀ (n : Nat) (v1 : Int32) (w : mW) (e : mW), f_X10_countChances_L9 o n v1 w = some e → P e → mEv X M_X10_countChances 4 r w' 9 [some (vr ((some o))), some (vi v1), none, none, none] [] w := by
  intro n
  induction n with
  | zero =>
    intro v1 w e h hP
    rw [f_X10_countChances_L9] at h
    cases h
  | succ n hk =>
    intro v1 w e h hP
    rw [f_X10_countChances_L9] at h
    refine ev_iload_n (q := 10) dX10_countChances_9 rfl rfl ?_
    refine ev_aload_n (q := 11) dX10_countChances_10 rfl rfl ?_
    replace h := Option.bind_eq_some_iff.mp h; obtain ⟨r8, hr8, h⟩ := h
    refine ev_gI dX10_countChances_11 fl_X10_197 hr8 rfl ?_
    by_cases hc : r8 ≤ v1
    · rw [if_pos hc] at h
      refine ev_icmp_ge_t (q := 75) dX10_countChances_14 (by decide) hc ?_
      cases h
      exact ev_weak _ (mLe_none (mLe_none (mLe_none (mLe_none (mLe_none mLe_nil))))) (hexit _ hP)
    · rw [if_neg hc] at h
      refine ev_icmp_ge_f (q := 17) (t0 := 75) dX10_countChances_14 (by decide) rfl hc ?_
      refine ev_aload_n (q := 18) dX10_countChances_17 rfl rfl ?_
      refine ev_iload_n (q := 19) dX10_countChances_18 rfl rfl ?_
      replace h := Option.bind_eq_some_iff.mp h; obtain ⟨q10, hq10, h⟩ := h
      obtain ⟨hxq10, fsq10, hkq10⟩ := kO_spec hq10
      cases hxq10
      replace h := Option.bind_eq_some_iff.mp h; obtain ⟨r9, hr9, h⟩ := h
      refine ev_invV (M1 := M_X10_tosserAt) (as := [vi v1]) (fs := fsq10) (ci := 10) dX10_countChances_19 rfl tw_515 cal_X10_tosserAt tw_517 tw_12 (by decide) rfl rfl (Nat.le_of_ble_eq_true rfl) hkq10 rfl (met_X10_tosserAt o v1 w _ hr9) ?_
      refine ev_astore_n (q := 23) dX10_countChances_22 rfl (by decide) ?_
      refine ev_iconst (q := 24) (v := (0 : Int32)) dX10_countChances_23 rfl (by decide) ?_
      refine ev_istore_n (q := 25) dX10_countChances_24 rfl (by decide) ?_
      replace h := Option.bind_eq_some_iff.mp h; obtain ⟨e11, he11, h⟩ := h
      refine ev_weak _ (mLe_some (mLe_some (mLe_some (mLe_some (mLe_none mLe_nil))))) (e_X10_countChances_L25 (fun z => e11 = z) o v1 r9 (fun e11q hq => ?_) mFuel (0 : Int32) w _ he11 rfl)
      subst hq
      refine ev_iinc (q := 72) (v := v1 + (1 : Int32)) dX10_countChances_69 rfl (by decide) rfl (by rfl) ?_
      refine ev_goto (q := 9) dX10_countChances_72 (by decide) ?_
      exact ev_weak _ (mLe_some (mLe_some (mLe_none (mLe_none (mLe_none mLe_nil))))) (hk (v1 + (1 : Int32)) e11 _ h hP)
def f_X10_countChances (o : Nat) (w : mW) : Option (mW) := Option.bind (gR w (some o) 10 6) fun r12 => Option.bind (f_X10_clear r12 w) fun w13 => Option.bind (f_X10_countChances_L9 o mFuel (0 : Int32) w13) fun e14 => some (e14)
set_option maxRecDepth 100000 in
set_option maxHeartbeats 4000000 in
theorem met_X10_countChances (o : Nat) (w : mW) (res : mW) (h : f_X10_countChances o w = some res) : mMet M_X10_countChances 4 [vr ((some o))] w none res := by
  refine ev_met (n := 4) (by decide) rfl fun X => ?_
  unfold f_X10_countChances at h
  show mEv X M_X10_countChances 4 _ _ 0 [some (vr ((some o))), none, none, none, none] [] w
  refine ev_aload_n (q := 1) dX10_countChances_0 rfl rfl ?_
  replace h := Option.bind_eq_some_iff.mp h; obtain ⟨r12, hr12, h⟩ := h
  refine ev_gR dX10_countChances_1 fl_X10_46 hr12 rfl ?_
  replace h := Option.bind_eq_some_iff.mp h; obtain ⟨w13, hw13, h⟩ := h
  refine ev_invS (M1 := M_X10_clear) (as := [vr r12]) dX10_countChances_4 rfl tw_514 cal_X10_clear tw_458 (by decide) rfl rfl (Nat.le_of_ble_eq_true rfl) (met_X10_clear r12 w _ hw13) ?_
  refine ev_iconst (q := 8) (v := (0 : Int32)) dX10_countChances_7 rfl (by decide) ?_
  refine ev_istore_n (q := 9) dX10_countChances_8 rfl (by decide) ?_
  replace h := Option.bind_eq_some_iff.mp h; obtain ⟨e14, he14, h⟩ := h
  refine ev_weak _ (mLe_some (mLe_some (mLe_none (mLe_none (mLe_none mLe_nil))))) (e_X10_countChances_L9 (fun z => e14 = z) o (fun e14q hq => ?_) mFuel (0 : Int32) w13 _ he14 rfl)
  subst hq
  cases h
  exact ev_vret dX10_countChances_75 rfl
def f_X10_covers (o : Nat) (v1 : Int32) (v2 : Int32) (w : mW) : Option (Int32) := Option.bind (kO w (some o) 10) fun _ => Option.bind (f_X10_isToss o v1 v2 w) fun r1 => if r1 = 0 then (some ((-101 : Int32))) else (Option.bind (gR w (some o) 10 3) fun r3 => Option.bind (gI w r3 2 8) fun r4 => Option.bind (kO w (some o) 10) fun _ => Option.bind (f_X10_crowdUnder o v1 v2 r4 w) fun r5 => some (r5))
set_option maxRecDepth 100000 in
set_option maxHeartbeats 4000000 in
theorem met_X10_covers (o : Nat) (v1 : Int32) (v2 : Int32) (w : mW) (res : Int32) (h : f_X10_covers o v1 v2 w = some res) : mMet M_X10_covers 4 [vr ((some o)), vi v1, vi v2] w (some (vi res)) w := by
  refine ev_met (n := 0) (by decide) rfl fun X => ?_
  unfold f_X10_covers at h
  show mEv X M_X10_covers 4 _ _ 0 [some (vr ((some o))), some (vi v1), some (vi v2)] [] w
  refine ev_aload_n (q := 1) dX10_covers_0 rfl rfl ?_
  refine ev_iload_n (q := 2) dX10_covers_1 rfl rfl ?_
  refine ev_iload_n (q := 3) dX10_covers_2 rfl rfl ?_
  replace h := Option.bind_eq_some_iff.mp h; obtain ⟨q2, hq2, h⟩ := h
  obtain ⟨hxq2, fsq2, hkq2⟩ := kO_spec hq2
  cases hxq2
  replace h := Option.bind_eq_some_iff.mp h; obtain ⟨r1, hr1, h⟩ := h
  refine ev_invV (M1 := M_X10_isToss) (as := [vi v1, vi v2]) (fs := fsq2) (ci := 10) dX10_covers_3 rfl tw_646 cal_X10_isToss tw_648 tw_20 (by decide) rfl rfl (Nat.le_of_ble_eq_true rfl) hkq2 rfl (met_X10_isToss o v1 v2 w _ hr1) ?_
  by_cases hc : r1 = 0
  · rw [if_pos hc] at h
    refine ev_if_ne_f (q := 9) (t0 := 12) dX10_covers_6 (by decide) rfl hc ?_
    refine ev_bipush (q := 11) (v := (-101 : Int32)) dX10_covers_9 rfl (by decide) ?_
    cases h
    exact ev_iret dX10_covers_11 rfl rfl
  · rw [if_neg hc] at h
    refine ev_if_ne_t (q := 12) dX10_covers_6 (by decide) hc ?_
    refine ev_aload_n (q := 13) dX10_covers_12 rfl rfl ?_
    refine ev_iload_n (q := 14) dX10_covers_13 rfl rfl ?_
    refine ev_iload_n (q := 15) dX10_covers_14 rfl rfl ?_
    refine ev_aload_n (q := 16) dX10_covers_15 rfl rfl ?_
    replace h := Option.bind_eq_some_iff.mp h; obtain ⟨r3, hr3, h⟩ := h
    refine ev_gR dX10_covers_16 fl_X10_32 hr3 rfl ?_
    replace h := Option.bind_eq_some_iff.mp h; obtain ⟨r4, hr4, h⟩ := h
    refine ev_gI dX10_covers_19 fl_X10_146 hr4 rfl ?_
    replace h := Option.bind_eq_some_iff.mp h; obtain ⟨q6, hq6, h⟩ := h
    obtain ⟨hxq6, fsq6, hkq6⟩ := kO_spec hq6
    cases hxq6
    replace h := Option.bind_eq_some_iff.mp h; obtain ⟨r5, hr5, h⟩ := h
    refine ev_invV (M1 := M_X10_crowdUnder) (as := [vi v1, vi v2, vi r4]) (fs := fsq6) (ci := 10) dX10_covers_22 rfl tw_602 cal_X10_crowdUnder tw_604 tw_18 (by decide) rfl rfl (Nat.le_of_ble_eq_true rfl) hkq6 rfl (met_X10_crowdUnder o v1 v2 r4 w _ hr5) ?_
    cases h
    exact ev_iret dX10_covers_25 rfl rfl
