def f_X11_tossesOver_J43 (kc : Int32 → Int32 → Option (Int32)) (o : Nat) (v1 : Int32) (v3 : Int32) (v4 : Int32) (s0 : Int32) (s1 : Int32) (w : mW) : Option (Int32) := kc (s0 + s1) (v4 + (1 : Int32))
set_option maxRecDepth 100000 in
set_option maxHeartbeats 4000000 in
theorem e_X11_tossesOver_J43 {X : mXs} {r : Option mV} {w' : mW} (P : (Int32) → Prop) (o : Nat) (v1 : Int32) (v3 : Int32) (v4 : Int32) (s0 : Int32) (s1 : Int32) (w : mW) (kc : Int32 → Int32 → Option (Int32)) (hk : ∀ (u2 : Int32) (u4 : Int32) (e : Int32), kc u2 u4 = some e → P e → mEv X M_X11_tossesOver 4 r w' 15 [some (vr ((some o))), some (vi v1), some (vi u2), some (vi v3), some (vi u4)] [] w) (e : Int32) (h : f_X11_tossesOver_J43 kc o v1 v3 v4 s0 s1 w = some e) (hP : P e) : mEv X M_X11_tossesOver 4 r w' 43 [some (vr ((some o))), some (vi v1), none, some (vi v3), some (vi v4)] [vi s1, vi s0] w := by
  unfold f_X11_tossesOver_J43 at h
  refine ev_iadd (q := 44) dX11_tossesOver_43 rfl ?_
  refine ev_istore_n (q := 45) dX11_tossesOver_44 rfl (by decide) ?_
  refine ev_iinc (q := 48) (v := v4 + (1 : Int32)) dX11_tossesOver_45 rfl (by decide) rfl (by rfl) ?_
  refine ev_goto (q := 15) dX11_tossesOver_48 (by decide) ?_
  exact ev_weak _ (mLe_some (mLe_some (mLe_some (mLe_some (mLe_some mLe_nil))))) (hk (s0 + s1) (v4 + (1 : Int32)) _ h hP)
def f_X11_tossesOver_L15 (o : Nat) (v1 : Int32) (v3 : Int32) (w : mW) : Nat → Int32 → Int32 → Option (Int32)
  | 0, _, _ => none
  | n + 1, v2, v4 => if (36 : Int32) ≤ v4 then (some (v2)) else (Option.bind (gI w (some o) 11 5) fun r1 => Option.bind (kO w (some o) 11) fun _ => Option.bind (f_X11_coversCell o v3 v4 r1 v1 w) fun r2 => if r2 = 0 then (f_X11_tossesOver_J43 (f_X11_tossesOver_L15 o v1 v3 w n) o v1 v3 v4 v2 (0 : Int32) w) else (f_X11_tossesOver_J43 (f_X11_tossesOver_L15 o v1 v3 w n) o v1 v3 v4 v2 (1 : Int32) w))
set_option maxRecDepth 100000 in
set_option maxHeartbeats 4000000 in
theorem e_X11_tossesOver_L15 {X : mXs} {r : Option mV} {w' : mW} (P : (Int32) → Prop) (o : Nat) (v1 : Int32) (v3 : Int32) (w : mW) (hexit : ∀ y, P y → mEv X M_X11_tossesOver 4 r w' 51 [some (vr ((some o))), some (vi v1), some (vi y), some (vi v3), none] [] w) : ∀ (n : Nat) (v2 : Int32) (v4 : Int32) (e : Int32), f_X11_tossesOver_L15 o v1 v3 w n v2 v4 = some e → P e → mEv X M_X11_tossesOver 4 r w' 15 [some (vr ((some o))), some (vi v1), some (vi v2), some (vi v3), some (vi v4)] [] w := by
  intro n
  induction n with
  | zero =>
    intro v2 v4 e h hP
    rw [f_X11_tossesOver_L15] at h
    cases h
  | succ n hk =>
    intro v2 v4 e h hP
    rw [f_X11_tossesOver_L15] at h
    refine ev_iload (q := 17) dX11_tossesOver_15 rfl rfl ?_
    refine ev_bipush (q := 19) (v := (36 : Int32)) dX11_tossesOver_17 rfl (by decide) ?_
    by_cases hc : (36 : Int32) ≤ v4
    · rw [if_pos hc] at h
      refine ev_icmp_ge_t (q := 51) dX11_tossesOver_19 (by decide) hc ?_
      cases h
      exact ev_weak _ (mLe_some (mLe_some (mLe_some (mLe_some (mLe_none mLe_nil))))) (hexit _ hP)
    · rw [if_neg hc] at h
      refine ev_icmp_ge_f (q := 22) (t0 := 51) dX11_tossesOver_19 (by decide) rfl hc ?_
      refine ev_iload_n (q := 23) dX11_tossesOver_22 rfl rfl ?_
      refine ev_aload_n (q := 24) dX11_tossesOver_23 rfl rfl ?_
      refine ev_iload_n (q := 25) dX11_tossesOver_24 rfl rfl ?_
      refine ev_iload (q := 27) dX11_tossesOver_25 rfl rfl ?_
      refine ev_aload_n (q := 28) dX11_tossesOver_27 rfl rfl ?_
      replace h := Option.bind_eq_some_iff.mp h; obtain ⟨r1, hr1, h⟩ := h
      refine ev_gI dX11_tossesOver_28 fl_X11_122 hr1 rfl ?_
      refine ev_iload_n (q := 32) dX11_tossesOver_31 rfl rfl ?_
      replace h := Option.bind_eq_some_iff.mp h; obtain ⟨q3, hq3, h⟩ := h
      obtain ⟨hxq3, fsq3, hkq3⟩ := kO_spec hq3
      cases hxq3
      replace h := Option.bind_eq_some_iff.mp h; obtain ⟨r2, hr2, h⟩ := h
      refine ev_invV (M1 := M_X11_coversCell) (as := [vi v3, vi v4, vi r1, vi v1]) (fs := fsq3) (ci := 11) dX11_tossesOver_32 rfl tw_1023 cal_X11_coversCell tw_1025 tw_37 (by decide) rfl rfl (Nat.le_of_ble_eq_true rfl) hkq3 rfl (met_X11_coversCell o v3 v4 r1 v1 w _ hr2) ?_
      by_cases hc : r2 = 0
      · rw [if_pos hc] at h
        refine ev_if_eq_t (q := 42) dX11_tossesOver_35 (by decide) hc ?_
        refine ev_iconst (q := 43) (v := (0 : Int32)) dX11_tossesOver_42 rfl (by decide) ?_
        exact ev_weak _ (mLe_some (mLe_some (mLe_none (mLe_some (mLe_some mLe_nil))))) (e_X11_tossesOver_J43 P o v1 v3 v4 v2 (0 : Int32) w _ hk  _ h hP)
      · rw [if_neg hc] at h
        refine ev_if_eq_f (q := 38) (t0 := 42) dX11_tossesOver_35 (by decide) rfl hc ?_
        refine ev_iconst (q := 39) (v := (1 : Int32)) dX11_tossesOver_38 rfl (by decide) ?_
        refine ev_goto (q := 43) dX11_tossesOver_39 (by decide) ?_
        exact ev_weak _ (mLe_some (mLe_some (mLe_none (mLe_some (mLe_some mLe_nil))))) (e_X11_tossesOver_J43 P o v1 v3 v4 v2 (1 : Int32) w _ hk  _ h hP)
def f_X11_tossesOver_L4 (o : Nat) (v1 : Int32) (w : mW) : Nat → Int32 → Int32 → Option (Int32)
  | 0, _, _ => none
  | n + 1, v2, v3 => Option.bind (gI w (some o) 11 4) fun r4 => if r4 ≤ v3 then (some (v2)) else (Option.bind (f_X11_tossesOver_L15 o v1 v3 w mFuel v2 (0 : Int32)) fun e5 => (f_X11_tossesOver_L4 o v1 w n) e5 (v3 + (1 : Int32)))
set_option maxRecDepth 100000 in
set_option maxHeartbeats 4000000 in
theorem e_X11_tossesOver_L4 {X : mXs} {r : Option mV} {w' : mW} (P : (Int32) → Prop) (o : Nat) (v1 : Int32) (w : mW) (hexit : ∀ y, P y → mEv X M_X11_tossesOver 4 r w' 57 [none, none, some (vi y), none, none] [] w) : ∀ (n : Nat) (v2 : Int32) (v3 : Int32) (e : Int32), f_X11_tossesOver_L4 o v1 w n v2 v3 = some e → P e → mEv X M_X11_tossesOver 4 r w' 4 [some (vr ((some o))), some (vi v1), some (vi v2), some (vi v3), none] [] w := by
  intro n
  induction n with
  | zero =>
    intro v2 v3 e h hP
    rw [f_X11_tossesOver_L4] at h
    cases h
  | succ n hk =>
    intro v2 v3 e h hP
    rw [f_X11_tossesOver_L4] at h
    refine ev_iload_n (q := 5) dX11_tossesOver_4 rfl rfl ?_
    refine ev_aload_n (q := 6) dX11_tossesOver_5 rfl rfl ?_
    replace h := Option.bind_eq_some_iff.mp h; obtain ⟨r4, hr4, h⟩ := h
    refine ev_gI dX11_tossesOver_6 fl_X11_119 hr4 rfl ?_
    by_cases hc : r4 ≤ v3
    · rw [if_pos hc] at h
      refine ev_icmp_ge_t (q := 57) dX11_tossesOver_9 (by decide) hc ?_
      cases h
      exact ev_weak _ (mLe_none (mLe_none (mLe_some (mLe_none (mLe_none mLe_nil))))) (hexit _ hP)
    · rw [if_neg hc] at h
      refine ev_icmp_ge_f (q := 12) (t0 := 57) dX11_tossesOver_9 (by decide) rfl hc ?_
      refine ev_iconst (q := 13) (v := (0 : Int32)) dX11_tossesOver_12 rfl (by decide) ?_
      refine ev_istore (q := 15) dX11_tossesOver_13 rfl (by decide) ?_
      replace h := Option.bind_eq_some_iff.mp h; obtain ⟨e5, he5, h⟩ := h
      refine ev_weak _ (mLe_some (mLe_some (mLe_some (mLe_some (mLe_some mLe_nil))))) (e_X11_tossesOver_L15 (fun z => e5 = z) o v1 v3 w (fun e5q hq => ?_) mFuel v2 (0 : Int32) _ he5 rfl)
      subst hq
      refine ev_iinc (q := 54) (v := v3 + (1 : Int32)) dX11_tossesOver_51 rfl (by decide) rfl (by rfl) ?_
      refine ev_goto (q := 4) dX11_tossesOver_54 (by decide) ?_
      exact ev_weak _ (mLe_some (mLe_some (mLe_some (mLe_some (mLe_none mLe_nil))))) (hk e5 (v3 + (1 : Int32)) _ h hP)
def f_X11_tossesOver (o : Nat) (v1 : Int32) (w : mW) : Option (Int32) := Option.bind (f_X11_tossesOver_L4 o v1 w mFuel (0 : Int32) (0 : Int32)) fun e6 => some (e6)
set_option maxRecDepth 100000 in
set_option maxHeartbeats 4000000 in
theorem met_X11_tossesOver (o : Nat) (v1 : Int32) (w : mW) (res : Int32) (h : f_X11_tossesOver o v1 w = some res) : mMet M_X11_tossesOver 4 [vr ((some o)), vi v1] w (some (vi res)) w := by
  refine ev_met (n := 3) (by decide) rfl fun X => ?_
  unfold f_X11_tossesOver at h
  show mEv X M_X11_tossesOver 4 _ _ 0 [some (vr ((some o))), some (vi v1), none, none, none] [] w
  refine ev_iconst (q := 1) (v := (0 : Int32)) dX11_tossesOver_0 rfl (by decide) ?_
  refine ev_istore_n (q := 2) dX11_tossesOver_1 rfl (by decide) ?_
  refine ev_iconst (q := 3) (v := (0 : Int32)) dX11_tossesOver_2 rfl (by decide) ?_
  refine ev_istore_n (q := 4) dX11_tossesOver_3 rfl (by decide) ?_
  replace h := Option.bind_eq_some_iff.mp h; obtain ⟨e6, he6, h⟩ := h
  refine ev_weak _ (mLe_some (mLe_some (mLe_some (mLe_some (mLe_none mLe_nil))))) (e_X11_tossesOver_L4 (fun z => e6 = z) o v1 w (fun e6q hq => ?_) mFuel (0 : Int32) (0 : Int32) _ he6 rfl)
  subst hq
  refine ev_iload_n (q := 58) dX11_tossesOver_57 rfl rfl ?_
  cases h
  exact ev_iret dX11_tossesOver_58 rfl rfl
def f_X11_who_J24 (s0 : Int32) (w : mW) : Option (Int32) := some (s0)
set_option maxRecDepth 100000 in
set_option maxHeartbeats 4000000 in
theorem e_X11_who_J24 {X : mXs} (s0 : Int32) (w : mW) (res : Int32) (h : f_X11_who_J24 s0 w = some res) : mEv X M_X11_who 4 (some (vi res)) w 24 [none, none] [vi s0] w := by
  unfold f_X11_who_J24 at h
  cases h
  exact ev_iret dX11_who_24 rfl rfl
def f_X11_who_J22 (w : mW) : Option (Int32) := f_X11_who_J24 (-101 : Int32) w
set_option maxRecDepth 100000 in
set_option maxHeartbeats 4000000 in
theorem e_X11_who_J22 {X : mXs} (w : mW) (res : Int32) (h : f_X11_who_J22 w = some res) : mEv X M_X11_who 4 (some (vi res)) w 22 [none, none] [] w := by
  unfold f_X11_who_J22 at h
  refine ev_bipush (q := 24) (v := (-101 : Int32)) dX11_who_22 rfl (by decide) ?_
  exact ev_weak _ (mLe_none (mLe_none mLe_nil)) (e_X11_who_J24 (-101 : Int32) w _ h)
def f_X11_who (o : Nat) (v1 : Int32) (w : mW) : Option (Int32) := Option.bind (kO w (some o) 11) fun _ => Option.bind (f_X11_lacks o  w) fun r1 => if r1 = 0 then (Option.bind (f_X11_isCell v1 w) fun r3 => if r3 = 0 then (f_X11_who_J22 w) else (Option.bind (kO w (some o) 11) fun _ => Option.bind (f_X11_whoOf o v1 w) fun r4 => f_X11_who_J24 r4 w)) else (f_X11_who_J22 w)
set_option maxRecDepth 100000 in
set_option maxHeartbeats 4000000 in
theorem met_X11_who (o : Nat) (v1 : Int32) (w : mW) (res : Int32) (h : f_X11_who o v1 w = some res) : mMet M_X11_who 4 [vr ((some o)), vi v1] w (some (vi res)) w := by
  refine ev_met (n := 0) (by decide) rfl fun X => ?_
  unfold f_X11_who at h
  show mEv X M_X11_who 4 _ _ 0 [some (vr ((some o))), some (vi v1)] [] w
  refine ev_aload_n (q := 1) dX11_who_0 rfl rfl ?_
  replace h := Option.bind_eq_some_iff.mp h; obtain ⟨q2, hq2, h⟩ := h
  obtain ⟨hxq2, fsq2, hkq2⟩ := kO_spec hq2
  cases hxq2
  replace h := Option.bind_eq_some_iff.mp h; obtain ⟨r1, hr1, h⟩ := h
  refine ev_invV (M1 := M_X11_lacks) (as := []) (fs := fsq2) (ci := 11) dX11_who_1 rfl tw_1104 cal_X11_lacks tw_1106 tw_48 (by decide) rfl rfl (Nat.le_of_ble_eq_true rfl) hkq2 rfl (met_X11_lacks o  w _ hr1) ?_
  by_cases hc : r1 = 0
  · rw [if_pos hc] at h
    refine ev_if_ne_f (q := 7) (t0 := 22) dX11_who_4 (by decide) rfl hc ?_
    refine ev_iload_n (q := 8) dX11_who_7 rfl rfl ?_
    replace h := Option.bind_eq_some_iff.mp h; obtain ⟨r3, hr3, h⟩ := h
    refine ev_invS (M1 := M_X11_isCell) (as := [vi v1]) dX11_who_8 rfl tw_1003 cal_X11_isCell tw_1004 (by decide) rfl rfl (Nat.le_of_ble_eq_true rfl) (met_X11_isCell v1 w _ hr3) ?_
    by_cases hc : r3 = 0
    · rw [if_pos hc] at h
      refine ev_if_eq_t (q := 22) dX11_who_11 (by decide) hc ?_
      exact ev_weak _ (mLe_none (mLe_none mLe_nil)) (e_X11_who_J22 w _ h)
    · rw [if_neg hc] at h
      refine ev_if_eq_f (q := 14) (t0 := 22) dX11_who_11 (by decide) rfl hc ?_
      refine ev_aload_n (q := 15) dX11_who_14 rfl rfl ?_
      refine ev_iload_n (q := 16) dX11_who_15 rfl rfl ?_
      replace h := Option.bind_eq_some_iff.mp h; obtain ⟨q5, hq5, h⟩ := h
      obtain ⟨hxq5, fsq5, hkq5⟩ := kO_spec hq5
      cases hxq5
      replace h := Option.bind_eq_some_iff.mp h; obtain ⟨r4, hr4, h⟩ := h
      refine ev_invV (M1 := M_X11_whoOf) (as := [vi v1]) (fs := fsq5) (ci := 11) dX11_who_16 rfl tw_1164 cal_X11_whoOf tw_1166 tw_54 (by decide) rfl rfl (Nat.le_of_ble_eq_true rfl) hkq5 rfl (met_X11_whoOf o v1 w _ hr4) ?_
      refine ev_goto (q := 24) dX11_who_19 (by decide) ?_
      exact ev_weak _ (mLe_none (mLe_none mLe_nil)) (e_X11_who_J24 r4 w _ h)
  · rw [if_neg hc] at h
    refine ev_if_ne_t (q := 22) dX11_who_4 (by decide) hc ?_
    exact ev_weak _ (mLe_none (mLe_none mLe_nil)) (e_X11_who_J22 w _ h)
def f_X10_all_J34 (o : Nat) (v1 : Int32) (w : mW) : Option (Int32 × mW) := Option.bind (kO w (some o) 10) fun _ => Option.bind (f_X10_hasPort o  w) fun r1 => if r1 = 0 then (some (((-103 : Int32), w))) else (Option.bind (kO w (some o) 10) fun _ => Option.bind (f_X10_everybody o  w) fun r3 => Option.bind (gR w (some o) 10 3) fun r5 => Option.bind (gI w r5 2 7) fun r6 => Option.bind (kO w (some o) 10) fun _ => Option.bind (f_X10_planFor o (r3 &&& (r6 ^^^ (-1 : Int32))) w) fun w7 => Option.bind (gR w7 (some o) 10 5) fun r9 => Option.bind (kO w7 r9 4) fun q11 => Option.bind (f_X4_tell q11 v1 w7) fun r10 => some ((r10, w7)))
set_option maxRecDepth 100000 in
set_option maxHeartbeats 4000000 in
theorem e_X10_all_J34 {X : mXs} (o : Nat) (v1 : Int32) (w : mW) (res : Int32 × mW) (h : f_X10_all_J34 o v1 w = some res) : mEv X M_X10_all 5 (some (vi res.1)) res.2 34 [some (vr ((some o))), some (vi v1), none] [] w := by
  unfold f_X10_all_J34 at h
  refine ev_aload_n (q := 35) dX10_all_34 rfl rfl ?_
  replace h := Option.bind_eq_some_iff.mp h; obtain ⟨q2, hq2, h⟩ := h
  obtain ⟨hxq2, fsq2, hkq2⟩ := kO_spec hq2
  cases hxq2
  replace h := Option.bind_eq_some_iff.mp h; obtain ⟨r1, hr1, h⟩ := h
  refine ev_invV (M1 := M_X10_hasPort) (as := []) (fs := fsq2) (ci := 10) dX10_all_35 rfl tw_654 cal_X10_hasPort tw_656 tw_22 (by decide) rfl rfl (Nat.le_of_ble_eq_true rfl) hkq2 rfl (met_X10_hasPort o  w _ hr1) ?_
  by_cases hc : r1 = 0
  · rw [if_pos hc] at h
    refine ev_if_ne_f (q := 41) (t0 := 44) dX10_all_38 (by decide) rfl hc ?_
    refine ev_bipush (q := 43) (v := (-103 : Int32)) dX10_all_41 rfl (by decide) ?_
    cases h
    exact ev_iret dX10_all_43 rfl rfl
  · rw [if_neg hc] at h
    refine ev_if_ne_t (q := 44) dX10_all_38 (by decide) hc ?_
    refine ev_aload_n (q := 45) dX10_all_44 rfl rfl ?_
    refine ev_aload_n (q := 46) dX10_all_45 rfl rfl ?_
    replace h := Option.bind_eq_some_iff.mp h; obtain ⟨q4, hq4, h⟩ := h
    obtain ⟨hxq4, fsq4, hkq4⟩ := kO_spec hq4
    cases hxq4
    replace h := Option.bind_eq_some_iff.mp h; obtain ⟨r3, hr3, h⟩ := h
    refine ev_invV (M1 := M_X10_everybody) (as := []) (fs := fsq4) (ci := 10) dX10_all_46 rfl tw_697 cal_X10_everybody tw_699 tw_23 (by decide) rfl rfl (Nat.le_of_ble_eq_true rfl) hkq4 rfl (met_X10_everybody o  w _ hr3) ?_
    refine ev_aload_n (q := 50) dX10_all_49 rfl rfl ?_
    replace h := Option.bind_eq_some_iff.mp h; obtain ⟨r5, hr5, h⟩ := h
    refine ev_gR dX10_all_50 fl_X10_32 hr5 rfl ?_
    replace h := Option.bind_eq_some_iff.mp h; obtain ⟨r6, hr6, h⟩ := h
    refine ev_gI dX10_all_53 fl_X10_86 hr6 rfl ?_
    refine ev_iconst (q := 57) (v := (-1 : Int32)) dX10_all_56 rfl (by decide) ?_
    refine ev_ixor (q := 58) dX10_all_57 rfl ?_
    refine ev_iand (q := 59) dX10_all_58 rfl ?_
    replace h := Option.bind_eq_some_iff.mp h; obtain ⟨q8, hq8, h⟩ := h
    obtain ⟨hxq8, fsq8, hkq8⟩ := kO_spec hq8
    cases hxq8
    replace h := Option.bind_eq_some_iff.mp h; obtain ⟨w7, hw7, h⟩ := h
    refine ev_invV (M1 := M_X10_planFor) (as := [vi (r3 &&& (r6 ^^^ (-1 : Int32)))]) (fs := fsq8) (ci := 10) dX10_all_59 rfl tw_701 cal_X10_planFor tw_703 tw_24 (by decide) rfl rfl (Nat.le_of_ble_eq_true rfl) hkq8 rfl (met_X10_planFor o (r3 &&& (r6 ^^^ (-1 : Int32))) w _ hw7) ?_
    refine ev_aload_n (q := 63) dX10_all_62 rfl rfl ?_
    replace h := Option.bind_eq_some_iff.mp h; obtain ⟨r9, hr9, h⟩ := h
    refine ev_gR dX10_all_63 fl_X10_42 hr9 rfl ?_
    refine ev_iload_n (q := 67) dX10_all_66 rfl rfl ?_
    replace h := Option.bind_eq_some_iff.mp h; obtain ⟨q11, hq11, h⟩ := h
    obtain ⟨hxq11, fsq11, hkq11⟩ := kO_spec hq11
    subst hxq11
    replace h := Option.bind_eq_some_iff.mp h; obtain ⟨r10, hr10, h⟩ := h
    refine ev_invV (M1 := M_X4_tell) (as := [vi v1]) (fs := fsq11) (ci := 4) dX10_all_67 rfl tw_734 cal_X4_tell tw_735 tw_736 (by decide) rfl rfl (Nat.le_of_ble_eq_true rfl) hkq11 rfl (met_X4_tell q11 v1 w7 _ hr10) ?_
    cases h
    exact ev_iret dX10_all_70 rfl rfl
def f_X10_all_J17 (o : Nat) (v1 : Int32) (s0 : Int32) (w : mW) : Option (Int32 × mW) := if v1 = 0 then (f_X10_all_J34 o v1 w) else (if v1 = (1 : Int32) then (f_X10_all_J34 o v1 w) else (if s0 = 0 then (some (((-102 : Int32), w))) else (f_X10_all_J34 o v1 w)))
set_option maxRecDepth 100000 in
set_option maxHeartbeats 4000000 in
theorem e_X10_all_J17 {X : mXs} (o : Nat) (v1 : Int32) (s0 : Int32) (w : mW) (res : Int32 × mW) (h : f_X10_all_J17 o v1 s0 w = some res) : mEv X M_X10_all 5 (some (vi res.1)) res.2 17 [some (vr ((some o))), some (vi v1), none] [vi s0] w := by
  unfold f_X10_all_J17 at h
  refine ev_istore_n (q := 18) dX10_all_17 rfl (by decide) ?_
  refine ev_iload_n (q := 19) dX10_all_18 rfl rfl ?_
  by_cases hc : v1 = 0
  · rw [if_pos hc] at h
    refine ev_if_eq_t (q := 34) dX10_all_19 (by decide) hc ?_
    exact ev_weak _ (mLe_some (mLe_some (mLe_none mLe_nil))) (e_X10_all_J34 o v1 w _ h)
  · rw [if_neg hc] at h
    refine ev_if_eq_f (q := 22) (t0 := 34) dX10_all_19 (by decide) rfl hc ?_
    refine ev_iload_n (q := 23) dX10_all_22 rfl rfl ?_
    refine ev_iconst (q := 24) (v := (1 : Int32)) dX10_all_23 rfl (by decide) ?_
    by_cases hc : v1 = (1 : Int32)
    · rw [if_pos hc] at h
      refine ev_icmp_eq_t (q := 34) dX10_all_24 (by decide) hc ?_
      exact ev_weak _ (mLe_some (mLe_some (mLe_none mLe_nil))) (e_X10_all_J34 o v1 w _ h)
    · rw [if_neg hc] at h
      refine ev_icmp_eq_f (q := 27) (t0 := 34) dX10_all_24 (by decide) rfl hc ?_
      refine ev_iload_n (q := 28) dX10_all_27 rfl rfl ?_
      by_cases hc : s0 = 0
      · rw [if_pos hc] at h
        refine ev_if_ne_f (q := 31) (t0 := 34) dX10_all_28 (by decide) rfl hc ?_
        refine ev_bipush (q := 33) (v := (-102 : Int32)) dX10_all_31 rfl (by decide) ?_
        cases h
        exact ev_iret dX10_all_33 rfl rfl
      · rw [if_neg hc] at h
        refine ev_if_ne_t (q := 34) dX10_all_28 (by decide) hc ?_
        exact ev_weak _ (mLe_some (mLe_some (mLe_none mLe_nil))) (e_X10_all_J34 o v1 w _ h)
def f_X10_all_J16 (o : Nat) (v1 : Int32) (w : mW) : Option (Int32 × mW) := f_X10_all_J17 o v1 (0 : Int32) w
set_option maxRecDepth 100000 in
set_option maxHeartbeats 4000000 in
theorem e_X10_all_J16 {X : mXs} (o : Nat) (v1 : Int32) (w : mW) (res : Int32 × mW) (h : f_X10_all_J16 o v1 w = some res) : mEv X M_X10_all 5 (some (vi res.1)) res.2 16 [some (vr ((some o))), some (vi v1), none] [] w := by
  unfold f_X10_all_J16 at h
  refine ev_iconst (q := 17) (v := (0 : Int32)) dX10_all_16 rfl (by decide) ?_
  exact ev_weak _ (mLe_some (mLe_some (mLe_none mLe_nil))) (e_X10_all_J17 o v1 (0 : Int32) w _ h)
def f_X10_all (o : Nat) (v1 : Int32) (w : mW) : Option (Int32 × mW) := if v1 < (10 : Int32) then (f_X10_all_J16 o v1 w) else (if (15 : Int32) < v1 then (f_X10_all_J16 o v1 w) else (f_X10_all_J17 o v1 (1 : Int32) w))
set_option maxRecDepth 100000 in
set_option maxHeartbeats 4000000 in
theorem met_X10_all (o : Nat) (v1 : Int32) (w : mW) (res : Int32 × mW) (h : f_X10_all o v1 w = some res) : mMet M_X10_all 5 [vr ((some o)), vi v1] w (some (vi res.1)) res.2 := by
  refine ev_met (n := 1) (by decide) rfl fun X => ?_
  unfold f_X10_all at h
  show mEv X M_X10_all 5 _ _ 0 [some (vr ((some o))), some (vi v1), none] [] w
  refine ev_iload_n (q := 1) dX10_all_0 rfl rfl ?_
  refine ev_bipush (q := 3) (v := (10 : Int32)) dX10_all_1 rfl (by decide) ?_
  by_cases hc : v1 < (10 : Int32)
  · rw [if_pos hc] at h
    refine ev_icmp_lt_t (q := 16) dX10_all_3 (by decide) hc ?_
    exact ev_weak _ (mLe_some (mLe_some (mLe_none mLe_nil))) (e_X10_all_J16 o v1 w _ h)
  · rw [if_neg hc] at h
    refine ev_icmp_lt_f (q := 6) (t0 := 16) dX10_all_3 (by decide) rfl hc ?_
    refine ev_iload_n (q := 7) dX10_all_6 rfl rfl ?_
    refine ev_bipush (q := 9) (v := (15 : Int32)) dX10_all_7 rfl (by decide) ?_
    by_cases hc : (15 : Int32) < v1
    · rw [if_pos hc] at h
      refine ev_icmp_gt_t (q := 16) dX10_all_9 (by decide) hc ?_
      exact ev_weak _ (mLe_some (mLe_some (mLe_none mLe_nil))) (e_X10_all_J16 o v1 w _ h)
    · rw [if_neg hc] at h
      refine ev_icmp_gt_f (q := 12) (t0 := 16) dX10_all_9 (by decide) rfl hc ?_
      refine ev_iconst (q := 13) (v := (1 : Int32)) dX10_all_12 rfl (by decide) ?_
      refine ev_goto (q := 17) dX10_all_13 (by decide) ?_
      exact ev_weak _ (mLe_some (mLe_some (mLe_none mLe_nil))) (e_X10_all_J17 o v1 (1 : Int32) w _ h)
def f_X10_bestAimOf_J40 (kc : Int32 → Int32 → Int32 → Option (Int32)) (o : Nat) (v1 : Int32) (v2 : Int32) (v3 : Int32) (v4 : Int32) (w : mW) : Option (Int32) := kc v2 v3 (v4 + (1 : Int32))
set_option maxRecDepth 100000 in
set_option maxHeartbeats 4000000 in
theorem e_X10_bestAimOf_J40 {X : mXs} {r : Option mV} {w' : mW} (P : (Int32) → Prop) (o : Nat) (v1 : Int32) (v2 : Int32) (v3 : Int32) (v4 : Int32) (w : mW) (kc : Int32 → Int32 → Int32 → Option (Int32)) (hk : ∀ (u2 : Int32) (u3 : Int32) (u4 : Int32) (e : Int32), kc u2 u3 u4 = some e → P e → mEv X M_X10_bestAimOf 5 r w' 12 [some (vr ((some o))), some (vi v1), some (vi u2), some (vi u3), some (vi u4), none] [] w) (e : Int32) (h : f_X10_bestAimOf_J40 kc o v1 v2 v3 v4 w = some e) (hP : P e) : mEv X M_X10_bestAimOf 5 r w' 40 [some (vr ((some o))), some (vi v1), some (vi v2), some (vi v3), some (vi v4), none] [] w := by
  unfold f_X10_bestAimOf_J40 at h
  refine ev_iinc (q := 43) (v := v4 + (1 : Int32)) dX10_bestAimOf_40 rfl (by decide) rfl (by rfl) ?_
  refine ev_goto (q := 12) dX10_bestAimOf_43 (by decide) ?_
  exact ev_weak _ (mLe_some (mLe_some (mLe_some (mLe_some (mLe_some (mLe_none mLe_nil)))))) (hk v2 v3 (v4 + (1 : Int32)) _ h hP)
def f_X10_bestAimOf_L12 (o : Nat) (v1 : Int32) (w : mW) : Nat → Int32 → Int32 → Int32 → Option (Int32)
  | 0, _, _, _ => none
  | n + 1, v2, v3, v4 => if (36 : Int32) ≤ v4 then (some (v2)) else (Option.bind (kO w (some o) 10) fun _ => Option.bind (f_X10_freshOf o v1 v4 w) fun r1 => if r1 ≤ v3 then (f_X10_bestAimOf_J40 (f_X10_bestAimOf_L12 o v1 w n) o v1 v2 v3 v4 w) else (f_X10_bestAimOf_J40 (f_X10_bestAimOf_L12 o v1 w n) o v1 v4 r1 v4 w))
set_option maxRecDepth 100000 in
set_option maxHeartbeats 4000000 in
theorem e_X10_bestAimOf_L12 {X : mXs} {r : Option mV} {w' : mW} (P : (Int32) → Prop) (o : Nat) (v1 : Int32) (w : mW) (hexit : ∀ y, P y → mEv X M_X10_bestAimOf 5 r w' 46 [none, none, some (vi y), none, none, none] [] w) : ∀ (n : Nat) (v2 : Int32) (v3 : Int32) (v4 : Int32) (e : Int32), f_X10_bestAimOf_L12 o v1 w n v2 v3 v4 = some e → P e → mEv X M_X10_bestAimOf 5 r w' 12 [some (vr ((some o))), some (vi v1), some (vi v2), some (vi v3), some (vi v4), none] [] w := by
  intro n
  induction n with
  | zero =>
    intro v2 v3 v4 e h hP
    rw [f_X10_bestAimOf_L12] at h
    cases h
  | succ n hk =>
    intro v2 v3 v4 e h hP
    rw [f_X10_bestAimOf_L12] at h
    refine ev_iload (q := 14) dX10_bestAimOf_12 rfl rfl ?_
    refine ev_bipush (q := 16) (v := (36 : Int32)) dX10_bestAimOf_14 rfl (by decide) ?_
    by_cases hc : (36 : Int32) ≤ v4
    · rw [if_pos hc] at h
      refine ev_icmp_ge_t (q := 46) dX10_bestAimOf_16 (by decide) hc ?_
      cases h
      exact ev_weak _ (mLe_none (mLe_none (mLe_some (mLe_none (mLe_none (mLe_none mLe_nil)))))) (hexit _ hP)
    · rw [if_neg hc] at h
      refine ev_icmp_ge_f (q := 19) (t0 := 46) dX10_bestAimOf_16 (by decide) rfl hc ?_
      refine ev_aload_n (q := 20) dX10_bestAimOf_19 rfl rfl ?_
      refine ev_iload_n (q := 21) dX10_bestAimOf_20 rfl rfl ?_
      refine ev_iload (q := 23) dX10_bestAimOf_21 rfl rfl ?_
      replace h := Option.bind_eq_some_iff.mp h; obtain ⟨q2, hq2, h⟩ := h
      obtain ⟨hxq2, fsq2, hkq2⟩ := kO_spec hq2
      cases hxq2
      replace h := Option.bind_eq_some_iff.mp h; obtain ⟨r1, hr1, h⟩ := h
      refine ev_invV (M1 := M_X10_freshOf) (as := [vi v1, vi v4]) (fs := fsq2) (ci := 10) dX10_bestAimOf_23 rfl tw_598 cal_X10_freshOf tw_600 tw_17 (by decide) rfl rfl (Nat.le_of_ble_eq_true rfl) hkq2 rfl (met_X10_freshOf o v1 v4 w _ hr1) ?_
      refine ev_istore (q := 28) dX10_bestAimOf_26 rfl (by decide) ?_
      refine ev_iload (q := 30) dX10_bestAimOf_28 rfl rfl ?_
      refine ev_iload_n (q := 31) dX10_bestAimOf_30 rfl rfl ?_
      by_cases hc : r1 ≤ v3
      · rw [if_pos hc] at h
        refine ev_icmp_le_t (q := 40) dX10_bestAimOf_31 (by decide) hc ?_
        exact ev_weak _ (mLe_some (mLe_some (mLe_some (mLe_some (mLe_some (mLe_none mLe_nil)))))) (e_X10_bestAimOf_J40 P o v1 v2 v3 v4 w _ hk  _ h hP)
      · rw [if_neg hc] at h
        refine ev_icmp_le_f (q := 34) (t0 := 40) dX10_bestAimOf_31 (by decide) rfl hc ?_
        refine ev_iload (q := 36) dX10_bestAimOf_34 rfl rfl ?_
        refine ev_istore_n (q := 37) dX10_bestAimOf_36 rfl (by decide) ?_
        refine ev_iload (q := 39) dX10_bestAimOf_37 rfl rfl ?_
        refine ev_istore_n (q := 40) dX10_bestAimOf_39 rfl (by decide) ?_
        exact ev_weak _ (mLe_some (mLe_some (mLe_some (mLe_some (mLe_some (mLe_none mLe_nil)))))) (e_X10_bestAimOf_J40 P o v1 v4 r1 v4 w _ hk  _ h hP)
def f_X10_bestAimOf (o : Nat) (v1 : Int32) (w : mW) : Option (Int32) := Option.bind (kO w (some o) 10) fun _ => Option.bind (f_X10_freshOf o v1 (0 : Int32) w) fun r3 => Option.bind (f_X10_bestAimOf_L12 o v1 w mFuel (0 : Int32) r3 (1 : Int32)) fun e5 => some (e5)
set_option maxRecDepth 100000 in
set_option maxHeartbeats 4000000 in
theorem met_X10_bestAimOf (o : Nat) (v1 : Int32) (w : mW) (res : Int32) (h : f_X10_bestAimOf o v1 w = some res) : mMet M_X10_bestAimOf 5 [vr ((some o)), vi v1] w (some (vi res)) w := by
  refine ev_met (n := 4) (by decide) rfl fun X => ?_
  unfold f_X10_bestAimOf at h
  show mEv X M_X10_bestAimOf 5 _ _ 0 [some (vr ((some o))), some (vi v1), none, none, none, none] [] w
  refine ev_iconst (q := 1) (v := (0 : Int32)) dX10_bestAimOf_0 rfl (by decide) ?_
  refine ev_istore_n (q := 2) dX10_bestAimOf_1 rfl (by decide) ?_
  refine ev_aload_n (q := 3) dX10_bestAimOf_2 rfl rfl ?_
  refine ev_iload_n (q := 4) dX10_bestAimOf_3 rfl rfl ?_
  refine ev_iconst (q := 5) (v := (0 : Int32)) dX10_bestAimOf_4 rfl (by decide) ?_
  replace h := Option.bind_eq_some_iff.mp h; obtain ⟨q4, hq4, h⟩ := h
  obtain ⟨hxq4, fsq4, hkq4⟩ := kO_spec hq4
  cases hxq4
  replace h := Option.bind_eq_some_iff.mp h; obtain ⟨r3, hr3, h⟩ := h
  refine ev_invV (M1 := M_X10_freshOf) (as := [vi v1, vi ((0 : Int32))]) (fs := fsq4) (ci := 10) dX10_bestAimOf_5 rfl tw_598 cal_X10_freshOf tw_600 tw_17 (by decide) rfl rfl (Nat.le_of_ble_eq_true rfl) hkq4 rfl (met_X10_freshOf o v1 (0 : Int32) w _ hr3) ?_
  refine ev_istore_n (q := 9) dX10_bestAimOf_8 rfl (by decide) ?_
  refine ev_iconst (q := 10) (v := (1 : Int32)) dX10_bestAimOf_9 rfl (by decide) ?_
  refine ev_istore (q := 12) dX10_bestAimOf_10 rfl (by decide) ?_
  replace h := Option.bind_eq_some_iff.mp h; obtain ⟨e5, he5, h⟩ := h
  refine ev_weak _ (mLe_some (mLe_some (mLe_some (mLe_some (mLe_some (mLe_none mLe_nil)))))) (e_X10_bestAimOf_L12 (fun z => e5 = z) o v1 w (fun e5q hq => ?_) mFuel (0 : Int32) r3 (1 : Int32) _ he5 rfl)
  subst hq
  refine ev_iload_n (q := 47) dX10_bestAimOf_46 rfl rfl ?_
  cases h
  exact ev_iret dX10_bestAimOf_47 rfl rfl
def f_X10_bestPlaceFor_J51 (kc : Int32 → Int32 → Int32 → Option (Int32)) (o : Nat) (v1 : Int32) (v2 : Int32) (v3 : Int32) (v4 : Int32) (w : mW) : Option (Int32) := kc v2 v3 (v4 + (1 : Int32))
set_option maxRecDepth 100000 in
set_option maxHeartbeats 4000000 in
theorem e_X10_bestPlaceFor_J51 {X : mXs} {r : Option mV} {w' : mW} (P : (Int32) → Prop) (o : Nat) (v1 : Int32) (v2 : Int32) (v3 : Int32) (v4 : Int32) (w : mW) (kc : Int32 → Int32 → Int32 → Option (Int32)) (hk : ∀ (u2 : Int32) (u3 : Int32) (u4 : Int32) (e : Int32), kc u2 u3 u4 = some e → P e → mEv X M_X10_bestPlaceFor 5 r w' 11 [some (vr ((some o))), some (vi v1), some (vi u2), some (vi u3), some (vi u4), none] [] w) (e : Int32) (h : f_X10_bestPlaceFor_J51 kc o v1 v2 v3 v4 w = some e) (hP : P e) : mEv X M_X10_bestPlaceFor 5 r w' 51 [some (vr ((some o))), some (vi v1), some (vi v2), some (vi v3), some (vi v4), none] [] w := by
  unfold f_X10_bestPlaceFor_J51 at h
  refine ev_iinc (q := 54) (v := v4 + (1 : Int32)) dX10_bestPlaceFor_51 rfl (by decide) rfl (by rfl) ?_
  refine ev_goto (q := 11) dX10_bestPlaceFor_54 (by decide) ?_
  exact ev_weak _ (mLe_some (mLe_some (mLe_some (mLe_some (mLe_some (mLe_none mLe_nil)))))) (hk v2 v3 (v4 + (1 : Int32)) _ h hP)
def f_X10_bestPlaceFor_L11 (o : Nat) (v1 : Int32) (w : mW) : Nat → Int32 → Int32 → Int32 → Option (Int32)
  | 0, _, _, _ => none
  | n + 1, v2, v3, v4 => if (36 : Int32) ≤ v4 then (some (v2)) else (Option.bind (gR w (some o) 10 6) fun r1 => Option.bind (f_X10_at r1 v4 w) fun r2 => if r2 ≤ v3 then (f_X10_bestPlaceFor_J51 (f_X10_bestPlaceFor_L11 o v1 w n) o v1 v2 v3 v4 w) else (Option.bind (kO w (some o) 10) fun _ => Option.bind (f_X10_isTakenByAnother o v4 v1 w) fun r3 => if r3 = 0 then (f_X10_bestPlaceFor_J51 (f_X10_bestPlaceFor_L11 o v1 w n) o v1 v4 r2 v4 w) else (f_X10_bestPlaceFor_J51 (f_X10_bestPlaceFor_L11 o v1 w n) o v1 v2 v3 v4 w)))
set_option maxRecDepth 100000 in
set_option maxHeartbeats 4000000 in
theorem e_X10_bestPlaceFor_L11 {X : mXs} {r : Option mV} {w' : mW} (P : (Int32) → Prop) (o : Nat) (v1 : Int32) (w : mW) (hexit : ∀ y, P y → mEv X M_X10_bestPlaceFor 5 r w' 57 [none, none, some (vi y), none, none, none] [] w) : ∀ (n : Nat) (v2 : Int32) (v3 : Int32) (v4 : Int32) (e : Int32), f_X10_bestPlaceFor_L11 o v1 w n v2 v3 v4 = some e → P e → mEv X M_X10_bestPlaceFor 5 r w' 11 [some (vr ((some o))), some (vi v1), some (vi v2), some (vi v3), some (vi v4), none] [] w := by
  intro n
  induction n with
  | zero =>
    intro v2 v3 v4 e h hP
    rw [f_X10_bestPlaceFor_L11] at h
    cases h
  | succ n hk =>
    intro v2 v3 v4 e h hP
    rw [f_X10_bestPlaceFor_L11] at h
    refine ev_iload (q := 13) dX10_bestPlaceFor_11 rfl rfl ?_
    refine ev_bipush (q := 15) (v := (36 : Int32)) dX10_bestPlaceFor_13 rfl (by decide) ?_
    by_cases hc : (36 : Int32) ≤ v4
    · rw [if_pos hc] at h
      refine ev_icmp_ge_t (q := 57) dX10_bestPlaceFor_15 (by decide) hc ?_
      cases h
      exact ev_weak _ (mLe_none (mLe_none (mLe_some (mLe_none (mLe_none (mLe_none mLe_nil)))))) (hexit _ hP)
    · rw [if_neg hc] at h
      refine ev_icmp_ge_f (q := 18) (t0 := 57) dX10_bestPlaceFor_15 (by decide) rfl hc ?_
      refine ev_aload_n (q := 19) dX10_bestPlaceFor_18 rfl rfl ?_
      replace h := Option.bind_eq_some_iff.mp h; obtain ⟨r1, hr1, h⟩ := h
      refine ev_gR dX10_bestPlaceFor_19 fl_X10_46 hr1 rfl ?_
      refine ev_iload (q := 24) dX10_bestPlaceFor_22 rfl rfl ?_
      replace h := Option.bind_eq_some_iff.mp h; obtain ⟨r2, hr2, h⟩ := h
      refine ev_invS (M1 := M_X10_at) (as := [vr r1, vi v4]) dX10_bestPlaceFor_24 rfl tw_460 cal_X10_at tw_308 (by decide) rfl rfl (Nat.le_of_ble_eq_true rfl) (met_X10_at r1 v4 w _ hr2) ?_
      refine ev_istore (q := 29) dX10_bestPlaceFor_27 rfl (by decide) ?_
      refine ev_iload (q := 31) dX10_bestPlaceFor_29 rfl rfl ?_
      refine ev_iload_n (q := 32) dX10_bestPlaceFor_31 rfl rfl ?_
      by_cases hc : r2 ≤ v3
      · rw [if_pos hc] at h
        refine ev_icmp_le_t (q := 51) dX10_bestPlaceFor_32 (by decide) hc ?_
        exact ev_weak _ (mLe_some (mLe_some (mLe_some (mLe_some (mLe_some (mLe_none mLe_nil)))))) (e_X10_bestPlaceFor_J51 P o v1 v2 v3 v4 w _ hk  _ h hP)
      · rw [if_neg hc] at h
        refine ev_icmp_le_f (q := 35) (t0 := 51) dX10_bestPlaceFor_32 (by decide) rfl hc ?_
        refine ev_aload_n (q := 36) dX10_bestPlaceFor_35 rfl rfl ?_
        refine ev_iload (q := 38) dX10_bestPlaceFor_36 rfl rfl ?_
        refine ev_iload_n (q := 39) dX10_bestPlaceFor_38 rfl rfl ?_
        replace h := Option.bind_eq_some_iff.mp h; obtain ⟨q4, hq4, h⟩ := h
        obtain ⟨hxq4, fsq4, hkq4⟩ := kO_spec hq4
        cases hxq4
        replace h := Option.bind_eq_some_iff.mp h; obtain ⟨r3, hr3, h⟩ := h
        refine ev_invV (M1 := M_X10_isTakenByAnother) (as := [vi v4, vi v1]) (fs := fsq4) (ci := 10) dX10_bestPlaceFor_39 rfl tw_552 cal_X10_isTakenByAnother tw_554 tw_15 (by decide) rfl rfl (Nat.le_of_ble_eq_true rfl) hkq4 rfl (met_X10_isTakenByAnother o v4 v1 w _ hr3) ?_
        by_cases hc : r3 = 0
        · rw [if_pos hc] at h
          refine ev_if_ne_f (q := 45) (t0 := 51) dX10_bestPlaceFor_42 (by decide) rfl hc ?_
          refine ev_iload (q := 47) dX10_bestPlaceFor_45 rfl rfl ?_
          refine ev_istore_n (q := 48) dX10_bestPlaceFor_47 rfl (by decide) ?_
          refine ev_iload (q := 50) dX10_bestPlaceFor_48 rfl rfl ?_
          refine ev_istore_n (q := 51) dX10_bestPlaceFor_50 rfl (by decide) ?_
          exact ev_weak _ (mLe_some (mLe_some (mLe_some (mLe_some (mLe_some (mLe_none mLe_nil)))))) (e_X10_bestPlaceFor_J51 P o v1 v4 r2 v4 w _ hk  _ h hP)
        · rw [if_neg hc] at h
          refine ev_if_ne_t (q := 51) dX10_bestPlaceFor_42 (by decide) hc ?_
          exact ev_weak _ (mLe_some (mLe_some (mLe_some (mLe_some (mLe_some (mLe_none mLe_nil)))))) (e_X10_bestPlaceFor_J51 P o v1 v2 v3 v4 w _ hk  _ h hP)
def f_X10_bestPlaceFor (o : Nat) (v1 : Int32) (w : mW) : Option (Int32 × mW) := Option.bind (kO w (some o) 10) fun _ => Option.bind (f_X10_countChances o  w) fun w5 => Option.bind (f_X10_bestPlaceFor_L11 o v1 w5 mFuel (-1 : Int32) (-1 : Int32) (0 : Int32)) fun e7 => some ((e7, w5))
set_option maxRecDepth 100000 in
set_option maxHeartbeats 4000000 in
theorem met_X10_bestPlaceFor (o : Nat) (v1 : Int32) (w : mW) (res : Int32 × mW) (h : f_X10_bestPlaceFor o v1 w = some res) : mMet M_X10_bestPlaceFor 5 [vr ((some o)), vi v1] w (some (vi res.1)) res.2 := by
  refine ev_met (n := 4) (by decide) rfl fun X => ?_
  unfold f_X10_bestPlaceFor at h
  show mEv X M_X10_bestPlaceFor 5 _ _ 0 [some (vr ((some o))), some (vi v1), none, none, none, none] [] w
  refine ev_aload_n (q := 1) dX10_bestPlaceFor_0 rfl rfl ?_
  replace h := Option.bind_eq_some_iff.mp h; obtain ⟨q6, hq6, h⟩ := h
  obtain ⟨hxq6, fsq6, hkq6⟩ := kO_spec hq6
  cases hxq6
  replace h := Option.bind_eq_some_iff.mp h; obtain ⟨w5, hw5, h⟩ := h
  refine ev_invV (M1 := M_X10_countChances) (as := []) (fs := fsq6) (ci := 10) dX10_bestPlaceFor_1 rfl tw_510 cal_X10_countChances tw_512 tw_11 (by decide) rfl rfl (Nat.le_of_ble_eq_true rfl) hkq6 rfl (met_X10_countChances o  w _ hw5) ?_
  refine ev_iconst (q := 5) (v := (-1 : Int32)) dX10_bestPlaceFor_4 rfl (by decide) ?_
  refine ev_istore_n (q := 6) dX10_bestPlaceFor_5 rfl (by decide) ?_
  refine ev_iconst (q := 7) (v := (-1 : Int32)) dX10_bestPlaceFor_6 rfl (by decide) ?_
  refine ev_istore_n (q := 8) dX10_bestPlaceFor_7 rfl (by decide) ?_
  refine ev_iconst (q := 9) (v := (0 : Int32)) dX10_bestPlaceFor_8 rfl (by decide) ?_
  refine ev_istore (q := 11) dX10_bestPlaceFor_9 rfl (by decide) ?_
  replace h := Option.bind_eq_some_iff.mp h; obtain ⟨e7, he7, h⟩ := h
  refine ev_weak _ (mLe_some (mLe_some (mLe_some (mLe_some (mLe_some (mLe_none mLe_nil)))))) (e_X10_bestPlaceFor_L11 (fun z => e7 = z) o v1 w5 (fun e7q hq => ?_) mFuel (-1 : Int32) (-1 : Int32) (0 : Int32) _ he7 rfl)
  subst hq
  refine ev_iload_n (q := 58) dX10_bestPlaceFor_57 rfl rfl ?_
  cases h
  exact ev_iret dX10_bestPlaceFor_58 rfl rfl
def f_X10_nights_J44 (s0 : Int32) (w : mW) : Option (Int32 × mW) := some ((s0, w))
set_option maxRecDepth 100000 in
set_option maxHeartbeats 4000000 in
theorem e_X10_nights_J44 {X : mXs} (s0 : Int32) (w : mW) (res : Int32 × mW) (h : f_X10_nights_J44 s0 w = some res) : mEv X M_X10_nights 5 (some (vi res.1)) res.2 44 [none, none] [vi s0] w := by
  unfold f_X10_nights_J44 at h
  cases h
  exact ev_iret dX10_nights_44 rfl rfl
def f_X10_nights (o : Nat) (w : mW) : Option (Int32 × mW) := Option.bind (kO w (some o) 10) fun _ => Option.bind (f_X10_hasPort o  w) fun r1 => if r1 = 0 then (some (((-103 : Int32), w))) else (Option.bind (kO w (some o) 10) fun _ => Option.bind (f_X10_everybody o  w) fun r3 => Option.bind (kO w (some o) 10) fun _ => Option.bind (f_X10_planFor o r3 w) fun w5 => Option.bind (gR w5 (some o) 10 5) fun r7 => Option.bind (kO w5 r7 4) fun q9 => Option.bind (f_X4_tell q9 (0 : Int32) w5) fun r8 => if r8 ≤ 0 then (f_X10_nights_J44 (-1 : Int32) w5) else (Option.bind (gR w5 (some o) 10 3) fun r10 => Option.bind (gI w5 r10 2 9) fun r11 => if r8 = 0 then none else f_X10_nights_J44 (r11 / r8) w5))
set_option maxRecDepth 100000 in
set_option maxHeartbeats 4000000 in
theorem met_X10_nights (o : Nat) (w : mW) (res : Int32 × mW) (h : f_X10_nights o w = some res) : mMet M_X10_nights 5 [vr ((some o))] w (some (vi res.1)) res.2 := by
  refine ev_met (n := 1) (by decide) rfl fun X => ?_
  unfold f_X10_nights at h
  show mEv X M_X10_nights 5 _ _ 0 [some (vr ((some o))), none] [] w
  refine ev_aload_n (q := 1) dX10_nights_0 rfl rfl ?_
  replace h := Option.bind_eq_some_iff.mp h; obtain ⟨q2, hq2, h⟩ := h
  obtain ⟨hxq2, fsq2, hkq2⟩ := kO_spec hq2
  cases hxq2
  replace h := Option.bind_eq_some_iff.mp h; obtain ⟨r1, hr1, h⟩ := h
  refine ev_invV (M1 := M_X10_hasPort) (as := []) (fs := fsq2) (ci := 10) dX10_nights_1 rfl tw_654 cal_X10_hasPort tw_656 tw_22 (by decide) rfl rfl (Nat.le_of_ble_eq_true rfl) hkq2 rfl (met_X10_hasPort o  w _ hr1) ?_
  by_cases hc : r1 = 0
  · rw [if_pos hc] at h
    refine ev_if_ne_f (q := 7) (t0 := 10) dX10_nights_4 (by decide) rfl hc ?_
    refine ev_bipush (q := 9) (v := (-103 : Int32)) dX10_nights_7 rfl (by decide) ?_
    cases h
    exact ev_iret dX10_nights_9 rfl rfl
  · rw [if_neg hc] at h
    refine ev_if_ne_t (q := 10) dX10_nights_4 (by decide) hc ?_
    refine ev_aload_n (q := 11) dX10_nights_10 rfl rfl ?_
    refine ev_aload_n (q := 12) dX10_nights_11 rfl rfl ?_
    replace h := Option.bind_eq_some_iff.mp h; obtain ⟨q4, hq4, h⟩ := h
    obtain ⟨hxq4, fsq4, hkq4⟩ := kO_spec hq4
    cases hxq4
    replace h := Option.bind_eq_some_iff.mp h; obtain ⟨r3, hr3, h⟩ := h
    refine ev_invV (M1 := M_X10_everybody) (as := []) (fs := fsq4) (ci := 10) dX10_nights_12 rfl tw_697 cal_X10_everybody tw_699 tw_23 (by decide) rfl rfl (Nat.le_of_ble_eq_true rfl) hkq4 rfl (met_X10_everybody o  w _ hr3) ?_
    replace h := Option.bind_eq_some_iff.mp h; obtain ⟨q6, hq6, h⟩ := h
    obtain ⟨hxq6, fsq6, hkq6⟩ := kO_spec hq6
    cases hxq6
    replace h := Option.bind_eq_some_iff.mp h; obtain ⟨w5, hw5, h⟩ := h
    refine ev_invV (M1 := M_X10_planFor) (as := [vi r3]) (fs := fsq6) (ci := 10) dX10_nights_15 rfl tw_701 cal_X10_planFor tw_703 tw_24 (by decide) rfl rfl (Nat.le_of_ble_eq_true rfl) hkq6 rfl (met_X10_planFor o r3 w _ hw5) ?_
    refine ev_aload_n (q := 19) dX10_nights_18 rfl rfl ?_
    replace h := Option.bind_eq_some_iff.mp h; obtain ⟨r7, hr7, h⟩ := h
    refine ev_gR dX10_nights_19 fl_X10_42 hr7 rfl ?_
    refine ev_iconst (q := 23) (v := (0 : Int32)) dX10_nights_22 rfl (by decide) ?_
    replace h := Option.bind_eq_some_iff.mp h; obtain ⟨q9, hq9, h⟩ := h
    obtain ⟨hxq9, fsq9, hkq9⟩ := kO_spec hq9
    subst hxq9
    replace h := Option.bind_eq_some_iff.mp h; obtain ⟨r8, hr8, h⟩ := h
    refine ev_invV (M1 := M_X4_tell) (as := [vi ((0 : Int32))]) (fs := fsq9) (ci := 4) dX10_nights_23 rfl tw_734 cal_X4_tell tw_735 tw_736 (by decide) rfl rfl (Nat.le_of_ble_eq_true rfl) hkq9 rfl (met_X4_tell q9 (0 : Int32) w5 _ hr8) ?_
    refine ev_istore_n (q := 27) dX10_nights_26 rfl (by decide) ?_
    refine ev_iload_n (q := 28) dX10_nights_27 rfl rfl ?_
    by_cases hc : r8 ≤ 0
    · rw [if_pos hc] at h
      refine ev_if_le_t (q := 43) dX10_nights_28 (by decide) hc ?_
      refine ev_iconst (q := 44) (v := (-1 : Int32)) dX10_nights_43 rfl (by decide) ?_
      exact ev_weak _ (mLe_none (mLe_none mLe_nil)) (e_X10_nights_J44 (-1 : Int32) w5 _ h)
    · rw [if_neg hc] at h
      refine ev_if_le_f (q := 31) (t0 := 43) dX10_nights_28 (by decide) rfl hc ?_
      refine ev_aload_n (q := 32) dX10_nights_31 rfl rfl ?_
      replace h := Option.bind_eq_some_iff.mp h; obtain ⟨r10, hr10, h⟩ := h
      refine ev_gR dX10_nights_32 fl_X10_32 hr10 rfl ?_
      replace h := Option.bind_eq_some_iff.mp h; obtain ⟨r11, hr11, h⟩ := h
      refine ev_gI dX10_nights_35 fl_X10_159 hr11 rfl ?_
      refine ev_iload_n (q := 39) dX10_nights_38 rfl rfl ?_
      split at h
      · cases h
      rename_i h0
      refine ev_idiv (q := 40) dX10_nights_39 rfl h0 ?_
      refine ev_goto (q := 44) dX10_nights_40 (by decide) ?_
      exact ev_weak _ (mLe_none (mLe_none mLe_nil)) (e_X10_nights_J44 (r11 / r8) w5 _ h)
def f_X10_settle_L40 (o : Nat) : Nat → Int32 → mW → Option (mW)
  | 0, _, _ => none
  | n + 1, v1, w => Option.bind (gI w (some o) 10 8) fun r1 => if r1 ≤ v1 then (some (w)) else (Option.bind (gR w (some o) 10 2) fun r2 => Option.bind (rN w r2) fun r3 => if r3 ≤ v1 then (some (w)) else (Option.bind (gR w (some o) 10 2) fun r4 => Option.bind (gR w (some o) 10 1) fun r5 => Option.bind (gR w r5 5 1) fun r6 => Option.bind (f_X10_at r6 v1 w) fun r7 => Option.bind (f_X10_tosserOf r7 w) fun r8 => Option.bind (rS r8.2 r4 v1 r8.1) fun w9 => (f_X10_settle_L40 o n) (v1 + (1 : Int32)) w9))
set_option maxRecDepth 100000 in
set_option maxHeartbeats 4000000 in
theorem e_X10_settle_L40 {X : mXs} {r : Option mV} {w' : mW} (P : (mW) → Prop) (o : Nat) (hexit : ∀ y, P y → mEv X M_X10_settle 5 r w' 83 [none, none] [] y) : ∀ (n : Nat) (v1 : Int32) (w : mW) (e : mW), f_X10_settle_L40 o n v1 w = some e → P e → mEv X M_X10_settle 5 r w' 40 [some (vr ((some o))), some (vi v1)] [] w := by
  intro n
  induction n with
  | zero =>
    intro v1 w e h hP
    rw [f_X10_settle_L40] at h
    cases h
  | succ n hk =>
    intro v1 w e h hP
    rw [f_X10_settle_L40] at h
    refine ev_iload_n (q := 41) dX10_settle_40 rfl rfl ?_
    refine ev_aload_n (q := 42) dX10_settle_41 rfl rfl ?_
    replace h := Option.bind_eq_some_iff.mp h; obtain ⟨r1, hr1, h⟩ := h
    refine ev_gI dX10_settle_42 fl_X10_197 hr1 rfl ?_
    by_cases hc : r1 ≤ v1
    · rw [if_pos hc] at h
      refine ev_icmp_ge_t (q := 83) dX10_settle_45 (by decide) hc ?_
      cases h
      exact ev_weak _ (mLe_none (mLe_none mLe_nil)) (hexit _ hP)
    · rw [if_neg hc] at h
      refine ev_icmp_ge_f (q := 48) (t0 := 83) dX10_settle_45 (by decide) rfl hc ?_
      refine ev_iload_n (q := 49) dX10_settle_48 rfl rfl ?_
      refine ev_aload_n (q := 50) dX10_settle_49 rfl rfl ?_
      replace h := Option.bind_eq_some_iff.mp h; obtain ⟨r2, hr2, h⟩ := h
      refine ev_gR dX10_settle_50 fl_X10_25 hr2 rfl ?_
      replace h := Option.bind_eq_some_iff.mp h; obtain ⟨r3, hr3, h⟩ := h
      refine ev_rN dX10_settle_53 hr3 rfl ?_
      by_cases hc : r3 ≤ v1
      · rw [if_pos hc] at h
        refine ev_icmp_ge_t (q := 83) dX10_settle_54 (by decide) hc ?_
        cases h
        exact ev_weak _ (mLe_none (mLe_none mLe_nil)) (hexit _ hP)
      · rw [if_neg hc] at h
        refine ev_icmp_ge_f (q := 57) (t0 := 83) dX10_settle_54 (by decide) rfl hc ?_
        refine ev_aload_n (q := 58) dX10_settle_57 rfl rfl ?_
        replace h := Option.bind_eq_some_iff.mp h; obtain ⟨r4, hr4, h⟩ := h
        refine ev_gR dX10_settle_58 fl_X10_25 hr4 rfl ?_
        refine ev_iload_n (q := 62) dX10_settle_61 rfl rfl ?_
        refine ev_aload_n (q := 63) dX10_settle_62 rfl rfl ?_
        replace h := Option.bind_eq_some_iff.mp h; obtain ⟨r5, hr5, h⟩ := h
        refine ev_gR dX10_settle_63 fl_X10_19 hr5 rfl ?_
        replace h := Option.bind_eq_some_iff.mp h; obtain ⟨r6, hr6, h⟩ := h
        refine ev_gR dX10_settle_66 fl_X10_271 hr6 rfl ?_
        refine ev_iload_n (q := 70) dX10_settle_69 rfl rfl ?_
        replace h := Option.bind_eq_some_iff.mp h; obtain ⟨r7, hr7, h⟩ := h
        refine ev_invS (M1 := M_X10_at) (as := [vr r6, vi v1]) dX10_settle_70 rfl tw_460 cal_X10_at tw_308 (by decide) rfl rfl (Nat.le_of_ble_eq_true rfl) (met_X10_at r6 v1 w _ hr7) ?_
        replace h := Option.bind_eq_some_iff.mp h; obtain ⟨r8, hr8, h⟩ := h
        refine ev_invS (M1 := M_X10_tosserOf) (as := [vi r7]) dX10_settle_73 rfl tw_461 cal_X10_tosserOf tw_462 (by decide) rfl rfl (Nat.le_of_ble_eq_true rfl) (met_X10_tosserOf r7 w _ hr8) ?_
        replace h := Option.bind_eq_some_iff.mp h; obtain ⟨w9, hw9, h⟩ := h
        refine ev_rS dX10_settle_76 tw_1232 tw_1233 tw_1234 tw_1235 hw9 rfl ?_
        refine ev_iinc (q := 80) (v := v1 + (1 : Int32)) dX10_settle_77 rfl (by decide) rfl (by rfl) ?_
        refine ev_goto (q := 40) dX10_settle_80 (by decide) ?_
        exact ev_weak _ (mLe_some (mLe_some mLe_nil)) (hk (v1 + (1 : Int32)) w9 _ h hP)
def f_X10_settle (o : Nat) (w : mW) : Option (mW) := Option.bind (gR w (some o) 10 1) fun r10 => Option.bind (gI w r10 5 4) fun r11 => Option.bind (pI w (some o) 10 7 r11) fun w12 => Option.bind (gR w12 (some o) 10 1) fun r13 => Option.bind (gI w12 r13 5 5) fun r14 => Option.bind (pI w12 (some o) 10 8 r14) fun w15 => Option.bind (pZ w15 (some o) 10 10 (0 : Int32)) fun w16 => Option.bind (gR w16 (some o) 10 3) fun r17 => Option.bind (gR w16 (some o) 10 1) fun r18 => Option.bind (kO w16 r17 2) fun q20 => Option.bind (f_X2_begin q20 r18 w16) fun w19 => Option.bind (f_X10_settle_L40 o mFuel (0 : Int32) w19) fun e21 => some (e21)
set_option maxRecDepth 100000 in
set_option maxHeartbeats 4000000 in
theorem met_X10_settle (o : Nat) (w : mW) (res : mW) (h : f_X10_settle o w = some res) : mMet M_X10_settle 5 [vr ((some o))] w none res := by
  refine ev_met (n := 1) (by decide) rfl fun X => ?_
  unfold f_X10_settle at h
  show mEv X M_X10_settle 5 _ _ 0 [some (vr ((some o))), none] [] w
  refine ev_aload_n (q := 1) dX10_settle_0 rfl rfl ?_
  refine ev_aload_n (q := 2) dX10_settle_1 rfl rfl ?_
  replace h := Option.bind_eq_some_iff.mp h; obtain ⟨r10, hr10, h⟩ := h
  refine ev_gR dX10_settle_2 fl_X10_19 hr10 rfl ?_
  replace h := Option.bind_eq_some_iff.mp h; obtain ⟨r11, hr11, h⟩ := h
  refine ev_gI dX10_settle_5 fl_X10_262 hr11 rfl ?_
  replace h := Option.bind_eq_some_iff.mp h; obtain ⟨w12, hw12, h⟩ := h
  refine ev_pI dX10_settle_8 fp_X10_72 hw12 rfl ?_
  refine ev_aload_n (q := 12) dX10_settle_11 rfl rfl ?_
  refine ev_aload_n (q := 13) dX10_settle_12 rfl rfl ?_
  replace h := Option.bind_eq_some_iff.mp h; obtain ⟨r13, hr13, h⟩ := h
  refine ev_gR dX10_settle_13 fl_X10_19 hr13 rfl ?_
  replace h := Option.bind_eq_some_iff.mp h; obtain ⟨r14, hr14, h⟩ := h
  refine ev_gI dX10_settle_16 fl_X10_265 hr14 rfl ?_
  replace h := Option.bind_eq_some_iff.mp h; obtain ⟨w15, hw15, h⟩ := h
  refine ev_pI dX10_settle_19 fp_X10_197 hw15 rfl ?_
  refine ev_aload_n (q := 23) dX10_settle_22 rfl rfl ?_
  refine ev_iconst (q := 24) (v := (0 : Int32)) dX10_settle_23 rfl (by decide) ?_
  replace h := Option.bind_eq_some_iff.mp h; obtain ⟨w16, hw16, h⟩ := h
  refine ev_pZ dX10_settle_24 fp_X10_223 hw16 rfl ?_
  refine ev_aload_n (q := 28) dX10_settle_27 rfl rfl ?_
  replace h := Option.bind_eq_some_iff.mp h; obtain ⟨r17, hr17, h⟩ := h
  refine ev_gR dX10_settle_28 fl_X10_32 hr17 rfl ?_
  refine ev_aload_n (q := 32) dX10_settle_31 rfl rfl ?_
  replace h := Option.bind_eq_some_iff.mp h; obtain ⟨r18, hr18, h⟩ := h
  refine ev_gR dX10_settle_32 fl_X10_19 hr18 rfl ?_
  replace h := Option.bind_eq_some_iff.mp h; obtain ⟨q20, hq20, h⟩ := h
  obtain ⟨hxq20, fsq20, hkq20⟩ := kO_spec hq20
  subst hxq20
  replace h := Option.bind_eq_some_iff.mp h; obtain ⟨w19, hw19, h⟩ := h
  refine ev_invV (M1 := M_X2_begin) (as := [vr r18]) (fs := fsq20) (ci := 2) dX10_settle_35 rfl tw_449 cal_X2_begin tw_450 tw_451 (by decide) rfl rfl (Nat.le_of_ble_eq_true rfl) hkq20 rfl (met_X2_begin q20 r18 w16 _ hw19) ?_
  refine ev_iconst (q := 39) (v := (0 : Int32)) dX10_settle_38 rfl (by decide) ?_
  refine ev_istore_n (q := 40) dX10_settle_39 rfl (by decide) ?_
  replace h := Option.bind_eq_some_iff.mp h; obtain ⟨e21, he21, h⟩ := h
  refine ev_weak _ (mLe_some (mLe_some mLe_nil)) (e_X10_settle_L40 (fun z => e21 = z) o (fun e21q hq => ?_) mFuel (0 : Int32) w19 _ he21 rfl)
  subst hq
  cases h
  exact ev_vret dX10_settle_83 rfl
def f_X5_takes (o : Nat) (v1 : Int32) (w : mW) : Option (Int32 × mW) := Option.bind (gI w (some o) 5 7) fun r1 => if r1 = 0 then (Option.bind (kO w (some o) 5) fun _ => Option.bind (f_X5_takesRow o (v1 - (48 : Int32)) w) fun r2 => if r2.1 = 0 ∨ r2.1 = 1 then some ((r2.1, r2.2)) else none) else (if r1 = 1 then (Option.bind (kO w (some o) 5) fun _ => Option.bind (f_X5_takesColumn o (v1 - (48 : Int32)) w) fun r4 => if r4.1 = 0 ∨ r4.1 = 1 then some ((r4.1, r4.2)) else none) else (if r1 = 2 then (Option.bind (kO w (some o) 5) fun _ => Option.bind (f_X5_takesAfterSleeper o v1 w) fun r6 => if r6.1 = 0 ∨ r6.1 = 1 then some ((r6.1, r6.2)) else none) else (if r1 = 3 then (Option.bind (kO w (some o) 5) fun _ => Option.bind (f_X5_takesKind o v1 w) fun r8 => if r8.1 = 0 ∨ r8.1 = 1 then some ((r8.1, r8.2)) else none) else (if r1 = 4 then (Option.bind (kO w (some o) 5) fun _ => Option.bind (f_X5_takesSouth o (v1 - (48 : Int32)) w) fun r10 => if r10.1 = 0 ∨ r10.1 = 1 then some ((r10.1, r10.2)) else none) else (if r1 = 5 then (Option.bind (kO w (some o) 5) fun _ => Option.bind (f_X5_takesEast o (v1 - (48 : Int32)) w) fun r12 => if r12.1 = 0 ∨ r12.1 = 1 then some ((r12.1, r12.2)) else none) else (Option.bind (kO w (some o) 5) fun _ => Option.bind (f_X5_takesAfterTosser o v1 w) fun r14 => if r14.1 = 0 ∨ r14.1 = 1 then some ((r14.1, r14.2)) else none))))))
set_option maxRecDepth 100000 in
set_option maxHeartbeats 4000000 in
theorem met_X5_takes (o : Nat) (v1 : Int32) (w : mW) (res : Int32 × mW) (h : f_X5_takes o v1 w = some res) : mMet M_X5_takes 5 [vr ((some o)), vi v1] w (some (vi res.1)) res.2 := by
  refine ev_met (n := 0) (by decide) rfl fun X => ?_
  unfold f_X5_takes at h
  show mEv X M_X5_takes 5 _ _ 0 [some (vr ((some o))), some (vi v1)] [] w
  refine ev_aload_n (q := 1) dX5_takes_0 rfl rfl ?_
  replace h := Option.bind_eq_some_iff.mp h; obtain ⟨r1, hr1, h⟩ := h
  refine ev_gI dX5_takes_1 fl_X5_31 hr1 rfl ?_
  by_cases hc0 : r1 = 0
  · rw [if_pos hc0] at h
    refine ev_table_in (q := 44) (off := 40) dX5_takes_4 (by rw [hc0]; decide) (by rw [hc0]; decide) (by rw [hc0]; rfl) (by decide) ?_
    refine ev_aload_n (q := 45) dX5_takes_44 rfl rfl ?_
    refine ev_iload_n (q := 46) dX5_takes_45 rfl rfl ?_
    refine ev_bipush (q := 48) (v := (48 : Int32)) dX5_takes_46 rfl (by decide) ?_
    refine ev_isub (q := 49) dX5_takes_48 rfl ?_
    replace h := Option.bind_eq_some_iff.mp h; obtain ⟨q3, hq3, h⟩ := h
    obtain ⟨hxq3, fsq3, hkq3⟩ := kO_spec hq3
    cases hxq3
    replace h := Option.bind_eq_some_iff.mp h; obtain ⟨r2, hr2, h⟩ := h
    refine ev_invV (M1 := M_X5_takesRow) (as := [vi (v1 - (48 : Int32))]) (fs := fsq3) (ci := 5) dX5_takes_49 rfl tw_314 cal_X5_takesRow tw_316 tw_1 (by decide) rfl rfl (Nat.le_of_ble_eq_true rfl) hkq3 rfl (met_X5_takesRow o (v1 - (48 : Int32)) w _ hr2) ?_
    by_cases hz : r2.1 = 0 ∨ r2.1 = 1
    · rw [if_pos hz] at h
      cases h
      exact ev_zret dX5_takes_52 rfl hz
    · rw [if_neg hz] at h
      cases h
  · rw [if_neg hc0] at h
    by_cases hc1 : r1 = 1
    · rw [if_pos hc1] at h
      refine ev_table_in (q := 53) (off := 49) dX5_takes_4 (by rw [hc1]; decide) (by rw [hc1]; decide) (by rw [hc1]; rfl) (by decide) ?_
      refine ev_aload_n (q := 54) dX5_takes_53 rfl rfl ?_
      refine ev_iload_n (q := 55) dX5_takes_54 rfl rfl ?_
      refine ev_bipush (q := 57) (v := (48 : Int32)) dX5_takes_55 rfl (by decide) ?_
      refine ev_isub (q := 58) dX5_takes_57 rfl ?_
      replace h := Option.bind_eq_some_iff.mp h; obtain ⟨q5, hq5, h⟩ := h
      obtain ⟨hxq5, fsq5, hkq5⟩ := kO_spec hq5
      cases hxq5
      replace h := Option.bind_eq_some_iff.mp h; obtain ⟨r4, hr4, h⟩ := h
      refine ev_invV (M1 := M_X5_takesColumn) (as := [vi (v1 - (48 : Int32))]) (fs := fsq5) (ci := 5) dX5_takes_58 rfl tw_318 cal_X5_takesColumn tw_320 tw_2 (by decide) rfl rfl (Nat.le_of_ble_eq_true rfl) hkq5 rfl (met_X5_takesColumn o (v1 - (48 : Int32)) w _ hr4) ?_
      by_cases hz : r4.1 = 0 ∨ r4.1 = 1
      · rw [if_pos hz] at h
        cases h
        exact ev_zret dX5_takes_61 rfl hz
      · rw [if_neg hz] at h
        cases h
    · rw [if_neg hc1] at h
      by_cases hc2 : r1 = 2
      · rw [if_pos hc2] at h
        refine ev_table_in (q := 62) (off := 58) dX5_takes_4 (by rw [hc2]; decide) (by rw [hc2]; decide) (by rw [hc2]; rfl) (by decide) ?_
        refine ev_aload_n (q := 63) dX5_takes_62 rfl rfl ?_
        refine ev_iload_n (q := 64) dX5_takes_63 rfl rfl ?_
        replace h := Option.bind_eq_some_iff.mp h; obtain ⟨q7, hq7, h⟩ := h
        obtain ⟨hxq7, fsq7, hkq7⟩ := kO_spec hq7
        cases hxq7
        replace h := Option.bind_eq_some_iff.mp h; obtain ⟨r6, hr6, h⟩ := h
        refine ev_invV (M1 := M_X5_takesAfterSleeper) (as := [vi v1]) (fs := fsq7) (ci := 5) dX5_takes_64 rfl tw_326 cal_X5_takesAfterSleeper tw_328 tw_3 (by decide) rfl rfl (Nat.le_of_ble_eq_true rfl) hkq7 rfl (met_X5_takesAfterSleeper o v1 w _ hr6) ?_
        by_cases hz : r6.1 = 0 ∨ r6.1 = 1
        · rw [if_pos hz] at h
          cases h
          exact ev_zret dX5_takes_67 rfl hz
        · rw [if_neg hz] at h
          cases h
      · rw [if_neg hc2] at h
        by_cases hc3 : r1 = 3
        · rw [if_pos hc3] at h
          refine ev_table_in (q := 68) (off := 64) dX5_takes_4 (by rw [hc3]; decide) (by rw [hc3]; decide) (by rw [hc3]; rfl) (by decide) ?_
          refine ev_aload_n (q := 69) dX5_takes_68 rfl rfl ?_
          refine ev_iload_n (q := 70) dX5_takes_69 rfl rfl ?_
          replace h := Option.bind_eq_some_iff.mp h; obtain ⟨q9, hq9, h⟩ := h
          obtain ⟨hxq9, fsq9, hkq9⟩ := kO_spec hq9
          cases hxq9
          replace h := Option.bind_eq_some_iff.mp h; obtain ⟨r8, hr8, h⟩ := h
          refine ev_invV (M1 := M_X5_takesKind) (as := [vi v1]) (fs := fsq9) (ci := 5) dX5_takes_70 rfl tw_330 cal_X5_takesKind tw_332 tw_4 (by decide) rfl rfl (Nat.le_of_ble_eq_true rfl) hkq9 rfl (met_X5_takesKind o v1 w _ hr8) ?_
          by_cases hz : r8.1 = 0 ∨ r8.1 = 1
          · rw [if_pos hz] at h
            cases h
            exact ev_zret dX5_takes_73 rfl hz
          · rw [if_neg hz] at h
            cases h
        · rw [if_neg hc3] at h
          by_cases hc4 : r1 = 4
          · rw [if_pos hc4] at h
            refine ev_table_in (q := 74) (off := 70) dX5_takes_4 (by rw [hc4]; decide) (by rw [hc4]; decide) (by rw [hc4]; rfl) (by decide) ?_
            refine ev_aload_n (q := 75) dX5_takes_74 rfl rfl ?_
            refine ev_iload_n (q := 76) dX5_takes_75 rfl rfl ?_
            refine ev_bipush (q := 78) (v := (48 : Int32)) dX5_takes_76 rfl (by decide) ?_
            refine ev_isub (q := 79) dX5_takes_78 rfl ?_
            replace h := Option.bind_eq_some_iff.mp h; obtain ⟨q11, hq11, h⟩ := h
            obtain ⟨hxq11, fsq11, hkq11⟩ := kO_spec hq11
            cases hxq11
            replace h := Option.bind_eq_some_iff.mp h; obtain ⟨r10, hr10, h⟩ := h
            refine ev_invV (M1 := M_X5_takesSouth) (as := [vi (v1 - (48 : Int32))]) (fs := fsq11) (ci := 5) dX5_takes_79 rfl tw_421 cal_X5_takesSouth tw_423 tw_5 (by decide) rfl rfl (Nat.le_of_ble_eq_true rfl) hkq11 rfl (met_X5_takesSouth o (v1 - (48 : Int32)) w _ hr10) ?_
            by_cases hz : r10.1 = 0 ∨ r10.1 = 1
            · rw [if_pos hz] at h
              cases h
              exact ev_zret dX5_takes_82 rfl hz
            · rw [if_neg hz] at h
              cases h
          · rw [if_neg hc4] at h
            by_cases hc5 : r1 = 5
            · rw [if_pos hc5] at h
              refine ev_table_in (q := 83) (off := 79) dX5_takes_4 (by rw [hc5]; decide) (by rw [hc5]; decide) (by rw [hc5]; rfl) (by decide) ?_
              refine ev_aload_n (q := 84) dX5_takes_83 rfl rfl ?_
              refine ev_iload_n (q := 85) dX5_takes_84 rfl rfl ?_
              refine ev_bipush (q := 87) (v := (48 : Int32)) dX5_takes_85 rfl (by decide) ?_
              refine ev_isub (q := 88) dX5_takes_87 rfl ?_
              replace h := Option.bind_eq_some_iff.mp h; obtain ⟨q13, hq13, h⟩ := h
              obtain ⟨hxq13, fsq13, hkq13⟩ := kO_spec hq13
              cases hxq13
              replace h := Option.bind_eq_some_iff.mp h; obtain ⟨r12, hr12, h⟩ := h
              refine ev_invV (M1 := M_X5_takesEast) (as := [vi (v1 - (48 : Int32))]) (fs := fsq13) (ci := 5) dX5_takes_88 rfl tw_428 cal_X5_takesEast tw_430 tw_6 (by decide) rfl rfl (Nat.le_of_ble_eq_true rfl) hkq13 rfl (met_X5_takesEast o (v1 - (48 : Int32)) w _ hr12) ?_
              by_cases hz : r12.1 = 0 ∨ r12.1 = 1
              · rw [if_pos hz] at h
                cases h
                exact ev_zret dX5_takes_91 rfl hz
              · rw [if_neg hz] at h
                cases h
            · rw [if_neg hc5] at h
              refine ev_table_out (q := 92) dX5_takes_4 (by have z0 := mNe (z := 0) (by decide) hc0; have z1 := mNe (z := 1) (by decide) hc1; have z2 := mNe (z := 2) (by decide) hc2; have z3 := mNe (z := 3) (by decide) hc3; have z4 := mNe (z := 4) (by decide) hc4; have z5 := mNe (z := 5) (by decide) hc5; omega) (by decide) ?_
              refine ev_aload_n (q := 93) dX5_takes_92 rfl rfl ?_
              refine ev_iload_n (q := 94) dX5_takes_93 rfl rfl ?_
              replace h := Option.bind_eq_some_iff.mp h; obtain ⟨q15, hq15, h⟩ := h
              obtain ⟨hxq15, fsq15, hkq15⟩ := kO_spec hq15
              cases hxq15
              replace h := Option.bind_eq_some_iff.mp h; obtain ⟨r14, hr14, h⟩ := h
              refine ev_invV (M1 := M_X5_takesAfterTosser) (as := [vi v1]) (fs := fsq15) (ci := 5) dX5_takes_94 rfl tw_432 cal_X5_takesAfterTosser tw_434 tw_7 (by decide) rfl rfl (Nat.le_of_ble_eq_true rfl) hkq15 rfl (met_X5_takesAfterTosser o v1 w _ hr14) ?_
              by_cases hz : r14.1 = 0 ∨ r14.1 = 1
              · rw [if_pos hz] at h
                cases h
                exact ev_zret dX5_takes_97 rfl hz
              · rw [if_neg hz] at h
                cases h
def f_X11_covers_J30 (s0 : Int32) (w : mW) : Option (Int32) := some (s0)
set_option maxRecDepth 100000 in
set_option maxHeartbeats 4000000 in
theorem e_X11_covers_J30 {X : mXs} (s0 : Int32) (w : mW) (res : Int32) (h : f_X11_covers_J30 s0 w = some res) : mEv X M_X11_covers 5 (some (vi res)) w 30 [none, none, none] [vi s0] w := by
  unfold f_X11_covers_J30 at h
  cases h
  exact ev_iret dX11_covers_30 rfl rfl
def f_X11_covers_J28 (w : mW) : Option (Int32) := f_X11_covers_J30 (-101 : Int32) w
set_option maxRecDepth 100000 in
set_option maxHeartbeats 4000000 in
theorem e_X11_covers_J28 {X : mXs} (w : mW) (res : Int32) (h : f_X11_covers_J28 w = some res) : mEv X M_X11_covers 5 (some (vi res)) w 28 [none, none, none] [] w := by
  unfold f_X11_covers_J28 at h
  refine ev_bipush (q := 30) (v := (-101 : Int32)) dX11_covers_28 rfl (by decide) ?_
  exact ev_weak _ (mLe_none (mLe_none (mLe_none mLe_nil))) (e_X11_covers_J30 (-101 : Int32) w _ h)
def f_X11_covers (o : Nat) (v1 : Int32) (v2 : Int32) (w : mW) : Option (Int32) := Option.bind (kO w (some o) 11) fun _ => Option.bind (f_X11_isTosser o v1 w) fun r1 => if r1 = 0 then (f_X11_covers_J28 w) else (Option.bind (f_X11_isCell v2 w) fun r3 => if r3 = 0 then (f_X11_covers_J28 w) else (Option.bind (gI w (some o) 11 5) fun r4 => Option.bind (kO w (some o) 11) fun _ => Option.bind (f_X11_coversOf o v1 v2 r4 w) fun r5 => f_X11_covers_J30 r5 w))
set_option maxRecDepth 100000 in
set_option maxHeartbeats 4000000 in
theorem met_X11_covers (o : Nat) (v1 : Int32) (v2 : Int32) (w : mW) (res : Int32) (h : f_X11_covers o v1 v2 w = some res) : mMet M_X11_covers 5 [vr ((some o)), vi v1, vi v2] w (some (vi res)) w := by
  refine ev_met (n := 0) (by decide) rfl fun X => ?_
  unfold f_X11_covers at h
  show mEv X M_X11_covers 5 _ _ 0 [some (vr ((some o))), some (vi v1), some (vi v2)] [] w
  refine ev_aload_n (q := 1) dX11_covers_0 rfl rfl ?_
  refine ev_iload_n (q := 2) dX11_covers_1 rfl rfl ?_
  replace h := Option.bind_eq_some_iff.mp h; obtain ⟨q2, hq2, h⟩ := h
  obtain ⟨hxq2, fsq2, hkq2⟩ := kO_spec hq2
  cases hxq2
  replace h := Option.bind_eq_some_iff.mp h; obtain ⟨r1, hr1, h⟩ := h
  refine ev_invV (M1 := M_X11_isTosser) (as := [vi v1]) (fs := fsq2) (ci := 11) dX11_covers_2 rfl tw_999 cal_X11_isTosser tw_1001 tw_34 (by decide) rfl rfl (Nat.le_of_ble_eq_true rfl) hkq2 rfl (met_X11_isTosser o v1 w _ hr1) ?_
  by_cases hc : r1 = 0
  · rw [if_pos hc] at h
    refine ev_if_eq_t (q := 28) dX11_covers_5 (by decide) hc ?_
    exact ev_weak _ (mLe_none (mLe_none (mLe_none mLe_nil))) (e_X11_covers_J28 w _ h)
  · rw [if_neg hc] at h
    refine ev_if_eq_f (q := 8) (t0 := 28) dX11_covers_5 (by decide) rfl hc ?_
    refine ev_iload_n (q := 9) dX11_covers_8 rfl rfl ?_
    replace h := Option.bind_eq_some_iff.mp h; obtain ⟨r3, hr3, h⟩ := h
    refine ev_invS (M1 := M_X11_isCell) (as := [vi v2]) dX11_covers_9 rfl tw_1003 cal_X11_isCell tw_1004 (by decide) rfl rfl (Nat.le_of_ble_eq_true rfl) (met_X11_isCell v2 w _ hr3) ?_
    by_cases hc : r3 = 0
    · rw [if_pos hc] at h
      refine ev_if_eq_t (q := 28) dX11_covers_12 (by decide) hc ?_
      exact ev_weak _ (mLe_none (mLe_none (mLe_none mLe_nil))) (e_X11_covers_J28 w _ h)
    · rw [if_neg hc] at h
      refine ev_if_eq_f (q := 15) (t0 := 28) dX11_covers_12 (by decide) rfl hc ?_
      refine ev_aload_n (q := 16) dX11_covers_15 rfl rfl ?_
      refine ev_iload_n (q := 17) dX11_covers_16 rfl rfl ?_
      refine ev_iload_n (q := 18) dX11_covers_17 rfl rfl ?_
      refine ev_aload_n (q := 19) dX11_covers_18 rfl rfl ?_
      replace h := Option.bind_eq_some_iff.mp h; obtain ⟨r4, hr4, h⟩ := h
      refine ev_gI dX11_covers_19 fl_X11_122 hr4 rfl ?_
      replace h := Option.bind_eq_some_iff.mp h; obtain ⟨q6, hq6, h⟩ := h
      obtain ⟨hxq6, fsq6, hkq6⟩ := kO_spec hq6
      cases hxq6
      replace h := Option.bind_eq_some_iff.mp h; obtain ⟨r5, hr5, h⟩ := h
      refine ev_invV (M1 := M_X11_coversOf) (as := [vi v1, vi v2, vi r4]) (fs := fsq6) (ci := 11) dX11_covers_22 rfl tw_1019 cal_X11_coversOf tw_1021 tw_36 (by decide) rfl rfl (Nat.le_of_ble_eq_true rfl) hkq6 rfl (met_X11_coversOf o v1 v2 r4 w _ hr5) ?_
      refine ev_goto (q := 30) dX11_covers_25 (by decide) ?_
      exact ev_weak _ (mLe_none (mLe_none (mLe_none mLe_nil))) (e_X11_covers_J30 r5 w _ h)
def f_X11_layLeast_J152 (kc : Int32 → mW → Option (mW)) (o : Nat) (v2 : Int32) (v3 : Int32) (s0 : Option Nat) (s1 : Int32) (s2 : Int32) (w : mW) : Option (mW) := Option.bind (aS w s0 s1 s2) fun w1 => kc (v3 + (1 : Int32)) w1
set_option maxRecDepth 100000 in
set_option maxHeartbeats 4000000 in
theorem e_X11_layLeast_J152 {X : mXs} {r : Option mV} {w' : mW} (P : (mW) → Prop) (o : Nat) (v2 : Int32) (v3 : Int32) (s0 : Option Nat) (s1 : Int32) (s2 : Int32) (w : mW) (kc : Int32 → mW → Option (mW)) (hk : ∀ (u3 : Int32) (uw : mW) (e : mW), kc u3 uw = some e → P e → mEv X M_X11_layLeast 5 r w' 75 [some (vr ((some o))), none, some (vi v2), some (vi u3), none, none] [] uw) (e : mW) (h : f_X11_layLeast_J152 kc o v2 v3 s0 s1 s2 w = some e) (hP : P e) : mEv X M_X11_layLeast 5 r w' 152 [some (vr ((some o))), none, some (vi v2), some (vi v3), none, none] [vi s2, vi s1, vr s0] w := by
  unfold f_X11_layLeast_J152 at h
  replace h := Option.bind_eq_some_iff.mp h; obtain ⟨w1, hw1, h⟩ := h
  refine ev_aS dX11_layLeast_152 hw1 rfl ?_
  refine ev_iinc (q := 156) (v := v3 + (1 : Int32)) dX11_layLeast_153 rfl (by decide) rfl (by rfl) ?_
  refine ev_goto (q := 75) dX11_layLeast_156 (by decide) ?_
  exact ev_weak _ (mLe_some (mLe_none (mLe_some (mLe_some (mLe_none (mLe_none mLe_nil)))))) (hk (v3 + (1 : Int32)) w1 _ h hP)
def f_X11_layLeast_L75 (o : Nat) (v2 : Int32) : Nat → Int32 → mW → Option (mW)
  | 0, _, _ => none
  | n + 1, v3, w => if (64 : Int32) ≤ v3 then (some (w)) else (Option.bind (gR w (some o) 11 19) fun r2 => Option.bind (aL w r2 ((((64 : Int32) * v2) + (64 : Int32)) + v3)) fun r3 => Option.bind (kO w (some o) 11) fun _ => Option.bind (f_X11_priceOf o v2 w) fun r4 => Option.bind (gR w (some o) 11 19) fun r6 => Option.bind (gR w (some o) 11 18) fun r7 => Option.bind (aL w r7 v2) fun r8 => Option.bind (aL w r6 ((((64 : Int32) * v2) + (64 : Int32)) + (v3 &&& (r8 ^^^ (-1 : Int32))))) fun r9 => Option.bind (gR w (some o) 11 19) fun r10 => if r3 ≤ r4 + r9 then (f_X11_layLeast_J152 (f_X11_layLeast_L75 o v2 n) o v2 v3 r10 (((64 : Int32) * v2) + v3) r3 w) else (f_X11_layLeast_J152 (f_X11_layLeast_L75 o v2 n) o v2 v3 r10 (((64 : Int32) * v2) + v3) (r4 + r9) w))
set_option maxRecDepth 100000 in
set_option maxHeartbeats 4000000 in
theorem e_X11_layLeast_L75 {X : mXs} {r : Option mV} {w' : mW} (P : (mW) → Prop) (o : Nat) (v2 : Int32) (hexit : ∀ y, P y → mEv X M_X11_layLeast 5 r w' 159 [some (vr ((some o))), none, some (vi v2), none, none, none] [] y) : ∀ (n : Nat) (v3 : Int32) (w : mW) (e : mW), f_X11_layLeast_L75 o v2 n v3 w = some e → P e → mEv X M_X11_layLeast 5 r w' 75 [some (vr ((some o))), none, some (vi v2), some (vi v3), none, none] [] w := by
  intro n
  induction n with
  | zero =>
    intro v3 w e h hP
    rw [f_X11_layLeast_L75] at h
    cases h
  | succ n hk =>
    intro v3 w e h hP
    rw [f_X11_layLeast_L75] at h
    refine ev_iload_n (q := 76) dX11_layLeast_75 rfl rfl ?_
    refine ev_bipush (q := 78) (v := (64 : Int32)) dX11_layLeast_76 rfl (by decide) ?_
    by_cases hc : (64 : Int32) ≤ v3
    · rw [if_pos hc] at h
      refine ev_icmp_ge_t (q := 159) dX11_layLeast_78 (by decide) hc ?_
      cases h
      exact ev_weak _ (mLe_some (mLe_none (mLe_some (mLe_none (mLe_none (mLe_none mLe_nil)))))) (hexit _ hP)
    · rw [if_neg hc] at h
      refine ev_icmp_ge_f (q := 81) (t0 := 159) dX11_layLeast_78 (by decide) rfl hc ?_
      refine ev_aload_n (q := 82) dX11_layLeast_81 rfl rfl ?_
      replace h := Option.bind_eq_some_iff.mp h; obtain ⟨r2, hr2, h⟩ := h
      refine ev_gR dX11_layLeast_82 fl_X11_40 hr2 rfl ?_
      refine ev_bipush (q := 87) (v := (64 : Int32)) dX11_layLeast_85 rfl (by decide) ?_
      refine ev_iload_n (q := 88) dX11_layLeast_87 rfl rfl ?_
      refine ev_imul (q := 89) dX11_layLeast_88 rfl ?_
      refine ev_bipush (q := 91) (v := (64 : Int32)) dX11_layLeast_89 rfl (by decide) ?_
      refine ev_iadd (q := 92) dX11_layLeast_91 rfl ?_
      refine ev_iload_n (q := 93) dX11_layLeast_92 rfl rfl ?_
      refine ev_iadd (q := 94) dX11_layLeast_93 rfl ?_
      replace h := Option.bind_eq_some_iff.mp h; obtain ⟨r3, hr3, h⟩ := h
      refine ev_aL dX11_layLeast_94 hr3 rfl ?_
      refine ev_istore (q := 97) dX11_layLeast_95 rfl (by decide) ?_
      refine ev_aload_n (q := 98) dX11_layLeast_97 rfl rfl ?_
      refine ev_iload_n (q := 99) dX11_layLeast_98 rfl rfl ?_
      replace h := Option.bind_eq_some_iff.mp h; obtain ⟨q5, hq5, h⟩ := h
      obtain ⟨hxq5, fsq5, hkq5⟩ := kO_spec hq5
      cases hxq5
      replace h := Option.bind_eq_some_iff.mp h; obtain ⟨r4, hr4, h⟩ := h
      refine ev_invV (M1 := M_X11_priceOf) (as := [vi v2]) (fs := fsq5) (ci := 11) dX11_layLeast_99 rfl tw_1140 cal_X11_priceOf tw_1142 tw_51 (by decide) rfl rfl (Nat.le_of_ble_eq_true rfl) hkq5 rfl (met_X11_priceOf o v2 w _ hr4) ?_
      refine ev_aload_n (q := 103) dX11_layLeast_102 rfl rfl ?_
      replace h := Option.bind_eq_some_iff.mp h; obtain ⟨r6, hr6, h⟩ := h
      refine ev_gR dX11_layLeast_103 fl_X11_40 hr6 rfl ?_
      refine ev_bipush (q := 108) (v := (64 : Int32)) dX11_layLeast_106 rfl (by decide) ?_
      refine ev_iload_n (q := 109) dX11_layLeast_108 rfl rfl ?_
      refine ev_imul (q := 110) dX11_layLeast_109 rfl ?_
      refine ev_bipush (q := 112) (v := (64 : Int32)) dX11_layLeast_110 rfl (by decide) ?_
      refine ev_iadd (q := 113) dX11_layLeast_112 rfl ?_
      refine ev_iload_n (q := 114) dX11_layLeast_113 rfl rfl ?_
      refine ev_aload_n (q := 115) dX11_layLeast_114 rfl rfl ?_
      replace h := Option.bind_eq_some_iff.mp h; obtain ⟨r7, hr7, h⟩ := h
      refine ev_gR dX11_layLeast_115 fl_X11_37 hr7 rfl ?_
      refine ev_iload_n (q := 119) dX11_layLeast_118 rfl rfl ?_
      replace h := Option.bind_eq_some_iff.mp h; obtain ⟨r8, hr8, h⟩ := h
      refine ev_aL dX11_layLeast_119 hr8 rfl ?_
      refine ev_iconst (q := 121) (v := (-1 : Int32)) dX11_layLeast_120 rfl (by decide) ?_
      refine ev_ixor (q := 122) dX11_layLeast_121 rfl ?_
      refine ev_iand (q := 123) dX11_layLeast_122 rfl ?_
      refine ev_iadd (q := 124) dX11_layLeast_123 rfl ?_
      replace h := Option.bind_eq_some_iff.mp h; obtain ⟨r9, hr9, h⟩ := h
      refine ev_aL dX11_layLeast_124 hr9 rfl ?_
      refine ev_iadd (q := 126) dX11_layLeast_125 rfl ?_
      refine ev_istore (q := 128) dX11_layLeast_126 rfl (by decide) ?_
      refine ev_aload_n (q := 129) dX11_layLeast_128 rfl rfl ?_
      replace h := Option.bind_eq_some_iff.mp h; obtain ⟨r10, hr10, h⟩ := h
      refine ev_gR dX11_layLeast_129 fl_X11_40 hr10 rfl ?_
      refine ev_bipush (q := 134) (v := (64 : Int32)) dX11_layLeast_132 rfl (by decide) ?_
      refine ev_iload_n (q := 135) dX11_layLeast_134 rfl rfl ?_
      refine ev_imul (q := 136) dX11_layLeast_135 rfl ?_
      refine ev_iload_n (q := 137) dX11_layLeast_136 rfl rfl ?_
      refine ev_iadd (q := 138) dX11_layLeast_137 rfl ?_
      refine ev_iload (q := 140) dX11_layLeast_138 rfl rfl ?_
      refine ev_iload (q := 142) dX11_layLeast_140 rfl rfl ?_
      by_cases hc : r3 ≤ r4 + r9
      · rw [if_pos hc] at h
        refine ev_icmp_ge_t (q := 150) dX11_layLeast_142 (by decide) hc ?_
        refine ev_iload (q := 152) dX11_layLeast_150 rfl rfl ?_
        exact ev_weak _ (mLe_some (mLe_none (mLe_some (mLe_some (mLe_none (mLe_none mLe_nil)))))) (e_X11_layLeast_J152 P o v2 v3 r10 (((64 : Int32) * v2) + v3) r3 w _ hk  _ h hP)
      · rw [if_neg hc] at h
        refine ev_icmp_ge_f (q := 145) (t0 := 150) dX11_layLeast_142 (by decide) rfl hc ?_
        refine ev_iload (q := 147) dX11_layLeast_145 rfl rfl ?_
        refine ev_goto (q := 152) dX11_layLeast_147 (by decide) ?_
        exact ev_weak _ (mLe_some (mLe_none (mLe_some (mLe_some (mLe_none (mLe_none mLe_nil)))))) (e_X11_layLeast_J152 P o v2 v3 r10 (((64 : Int32) * v2) + v3) (r4 + r9) w _ hk  _ h hP)
def f_X11_layLeast_L47 (o : Nat) : Nat → Int32 → mW → Option (mW)
  | 0, _, _ => none
  | n + 1, v2, w => if v2 < 0 then (some (w)) else (Option.bind (gR w (some o) 11 18) fun r11 => Option.bind (gI w (some o) 11 5) fun r12 => Option.bind (kO w (some o) 11) fun _ => Option.bind (f_X11_coversOf o (v2 / (36 : Int32)) (v2 - v2 / (36 : Int32) * (36 : Int32)) r12 w) fun r13 => Option.bind (aS w r11 v2 r13) fun w15 => Option.bind (f_X11_layLeast_L75 o v2 mFuel (0 : Int32) w15) fun e16 => (f_X11_layLeast_L47 o n) (v2 + (-1)) e16)
set_option maxRecDepth 100000 in
set_option maxHeartbeats 4000000 in
theorem e_X11_layLeast_L47 {X : mXs} {r : Option mV} {w' : mW} (P : (mW) → Prop) (o : Nat) (hexit : ∀ y, P y → mEv X M_X11_layLeast 5 r w' 165 [none, none, none, none, none, none] [] y) : ∀ (n : Nat) (v2 : Int32) (w : mW) (e : mW), f_X11_layLeast_L47 o n v2 w = some e → P e → mEv X M_X11_layLeast 5 r w' 47 [some (vr ((some o))), none, some (vi v2), none, none, none] [] w := by
  intro n
  induction n with
  | zero =>
    intro v2 w e h hP
    rw [f_X11_layLeast_L47] at h
    cases h
  | succ n hk =>
    intro v2 w e h hP
    rw [f_X11_layLeast_L47] at h
    refine ev_iload_n (q := 48) dX11_layLeast_47 rfl rfl ?_
    by_cases hc : v2 < 0
    · rw [if_pos hc] at h
      refine ev_if_lt_t (q := 165) dX11_layLeast_48 (by decide) hc ?_
      cases h
      exact ev_weak _ (mLe_none (mLe_none (mLe_none (mLe_none (mLe_none (mLe_none mLe_nil)))))) (hexit _ hP)
    · rw [if_neg hc] at h
      refine ev_if_lt_f (q := 51) (t0 := 165) dX11_layLeast_48 (by decide) rfl hc ?_
      refine ev_aload_n (q := 52) dX11_layLeast_51 rfl rfl ?_
      replace h := Option.bind_eq_some_iff.mp h; obtain ⟨r11, hr11, h⟩ := h
      refine ev_gR dX11_layLeast_52 fl_X11_37 hr11 rfl ?_
      refine ev_iload_n (q := 56) dX11_layLeast_55 rfl rfl ?_
      refine ev_aload_n (q := 57) dX11_layLeast_56 rfl rfl ?_
      refine ev_iload_n (q := 58) dX11_layLeast_57 rfl rfl ?_
      refine ev_bipush (q := 60) (v := (36 : Int32)) dX11_layLeast_58 rfl (by decide) ?_
      refine ev_idiv (q := 61) dX11_layLeast_60 rfl (by decide) ?_
      refine ev_iload_n (q := 62) dX11_layLeast_61 rfl rfl ?_
      refine ev_bipush (q := 64) (v := (36 : Int32)) dX11_layLeast_62 rfl (by decide) ?_
      refine ev_irem (q := 65) dX11_layLeast_64 rfl (by decide) ?_
      refine ev_aload_n (q := 66) dX11_layLeast_65 rfl rfl ?_
      replace h := Option.bind_eq_some_iff.mp h; obtain ⟨r12, hr12, h⟩ := h
      refine ev_gI dX11_layLeast_66 fl_X11_122 hr12 rfl ?_
      replace h := Option.bind_eq_some_iff.mp h; obtain ⟨q14, hq14, h⟩ := h
      obtain ⟨hxq14, fsq14, hkq14⟩ := kO_spec hq14
      cases hxq14
      replace h := Option.bind_eq_some_iff.mp h; obtain ⟨r13, hr13, h⟩ := h
      refine ev_invV (M1 := M_X11_coversOf) (as := [vi (v2 / (36 : Int32)), vi (v2 - v2 / (36 : Int32) * (36 : Int32)), vi r12]) (fs := fsq14) (ci := 11) dX11_layLeast_69 rfl tw_1019 cal_X11_coversOf tw_1021 tw_36 (by decide) rfl rfl (Nat.le_of_ble_eq_true rfl) hkq14 rfl (met_X11_coversOf o (v2 / (36 : Int32)) (v2 - v2 / (36 : Int32) * (36 : Int32)) r12 w _ hr13) ?_
      replace h := Option.bind_eq_some_iff.mp h; obtain ⟨w15, hw15, h⟩ := h
      refine ev_aS dX11_layLeast_72 hw15 rfl ?_
      refine ev_iconst (q := 74) (v := (0 : Int32)) dX11_layLeast_73 rfl (by decide) ?_
      refine ev_istore_n (q := 75) dX11_layLeast_74 rfl (by decide) ?_
      replace h := Option.bind_eq_some_iff.mp h; obtain ⟨e16, he16, h⟩ := h
      refine ev_weak _ (mLe_some (mLe_none (mLe_some (mLe_some (mLe_none (mLe_none mLe_nil)))))) (e_X11_layLeast_L75 (fun z => e16 = z) o v2 (fun e16q hq => ?_) mFuel (0 : Int32) w15 _ he16 rfl)
      subst hq
      refine ev_iinc (q := 162) (v := v2 + (-1)) dX11_layLeast_159 rfl (by decide) rfl (by rfl) ?_
      refine ev_goto (q := 47) dX11_layLeast_162 (by decide) ?_
      exact ev_weak _ (mLe_some (mLe_none (mLe_some (mLe_none (mLe_none (mLe_none mLe_nil)))))) (hk (v2 + (-1)) e16 _ h hP)
def f_X11_layLeast_J36 (kc : Int32 → mW → Option (mW)) (o : Nat) (v1 : Int32) (v2 : Int32) (s0 : Option Nat) (s1 : Int32) (s2 : Int32) (w : mW) : Option (mW) := Option.bind (aS w s0 s1 s2) fun w17 => kc (v2 + (1 : Int32)) w17
set_option maxRecDepth 100000 in
set_option maxHeartbeats 4000000 in
theorem e_X11_layLeast_J36 {X : mXs} {r : Option mV} {w' : mW} (P : (mW) → Prop) (o : Nat) (v1 : Int32) (v2 : Int32) (s0 : Option Nat) (s1 : Int32) (s2 : Int32) (w : mW) (kc : Int32 → mW → Option (mW)) (hk : ∀ (u2 : Int32) (uw : mW) (e : mW), kc u2 uw = some e → P e → mEv X M_X11_layLeast 5 r w' 10 [some (vr ((some o))), some (vi v1), some (vi u2), none, none, none] [] uw) (e : mW) (h : f_X11_layLeast_J36 kc o v1 v2 s0 s1 s2 w = some e) (hP : P e) : mEv X M_X11_layLeast 5 r w' 36 [some (vr ((some o))), some (vi v1), some (vi v2), none, none, none] [vi s2, vi s1, vr s0] w := by
  unfold f_X11_layLeast_J36 at h
  replace h := Option.bind_eq_some_iff.mp h; obtain ⟨w17, hw17, h⟩ := h
  refine ev_aS dX11_layLeast_36 hw17 rfl ?_
  refine ev_iinc (q := 40) (v := v2 + (1 : Int32)) dX11_layLeast_37 rfl (by decide) rfl (by rfl) ?_
  refine ev_goto (q := 10) dX11_layLeast_40 (by decide) ?_
  exact ev_weak _ (mLe_some (mLe_some (mLe_some (mLe_none (mLe_none (mLe_none mLe_nil)))))) (hk (v2 + (1 : Int32)) w17 _ h hP)
def f_X11_layLeast_L10 (o : Nat) (v1 : Int32) : Nat → Int32 → mW → Option (mW)
  | 0, _, _ => none
  | n + 1, v2, w => if (64 : Int32) ≤ v2 then (some (w)) else (Option.bind (gR w (some o) 11 19) fun r18 => if v2 = 0 then (f_X11_layLeast_J36 (f_X11_layLeast_L10 o v1 n) o v1 v2 r18 (((64 : Int32) * v1) + v2) (0 : Int32) w) else (f_X11_layLeast_J36 (f_X11_layLeast_L10 o v1 n) o v1 v2 r18 (((64 : Int32) * v1) + v2) (1000000 : Int32) w))
set_option maxRecDepth 100000 in
set_option maxHeartbeats 4000000 in
theorem e_X11_layLeast_L10 {X : mXs} {r : Option mV} {w' : mW} (P : (mW) → Prop) (o : Nat) (v1 : Int32) (hexit : ∀ y, P y → mEv X M_X11_layLeast 5 r w' 43 [some (vr ((some o))), some (vi v1), none, none, none, none] [] y) : ∀ (n : Nat) (v2 : Int32) (w : mW) (e : mW), f_X11_layLeast_L10 o v1 n v2 w = some e → P e → mEv X M_X11_layLeast 5 r w' 10 [some (vr ((some o))), some (vi v1), some (vi v2), none, none, none] [] w := by
  intro n
  induction n with
  | zero =>
    intro v2 w e h hP
    rw [f_X11_layLeast_L10] at h
    cases h
  | succ n hk =>
    intro v2 w e h hP
    rw [f_X11_layLeast_L10] at h
    refine ev_iload_n (q := 11) dX11_layLeast_10 rfl rfl ?_
    refine ev_bipush (q := 13) (v := (64 : Int32)) dX11_layLeast_11 rfl (by decide) ?_
    by_cases hc : (64 : Int32) ≤ v2
    · rw [if_pos hc] at h
      refine ev_icmp_ge_t (q := 43) dX11_layLeast_13 (by decide) hc ?_
      cases h
      exact ev_weak _ (mLe_some (mLe_some (mLe_none (mLe_none (mLe_none (mLe_none mLe_nil)))))) (hexit _ hP)
    · rw [if_neg hc] at h
      refine ev_icmp_ge_f (q := 16) (t0 := 43) dX11_layLeast_13 (by decide) rfl hc ?_
      refine ev_aload_n (q := 17) dX11_layLeast_16 rfl rfl ?_
      replace h := Option.bind_eq_some_iff.mp h; obtain ⟨r18, hr18, h⟩ := h
      refine ev_gR dX11_layLeast_17 fl_X11_40 hr18 rfl ?_
      refine ev_bipush (q := 22) (v := (64 : Int32)) dX11_layLeast_20 rfl (by decide) ?_
      refine ev_iload_n (q := 23) dX11_layLeast_22 rfl rfl ?_
      refine ev_imul (q := 24) dX11_layLeast_23 rfl ?_
      refine ev_iload_n (q := 25) dX11_layLeast_24 rfl rfl ?_
      refine ev_iadd (q := 26) dX11_layLeast_25 rfl ?_
      refine ev_iload_n (q := 27) dX11_layLeast_26 rfl rfl ?_
      by_cases hc : v2 = 0
      · rw [if_pos hc] at h
        refine ev_if_ne_f (q := 30) (t0 := 34) dX11_layLeast_27 (by decide) rfl hc ?_
        refine ev_iconst (q := 31) (v := (0 : Int32)) dX11_layLeast_30 rfl (by decide) ?_
        refine ev_goto (q := 36) dX11_layLeast_31 (by decide) ?_
        exact ev_weak _ (mLe_some (mLe_some (mLe_some (mLe_none (mLe_none (mLe_none mLe_nil)))))) (e_X11_layLeast_J36 P o v1 v2 r18 (((64 : Int32) * v1) + v2) (0 : Int32) w _ hk  _ h hP)
      · rw [if_neg hc] at h
        refine ev_if_ne_t (q := 34) dX11_layLeast_27 (by decide) hc ?_
        refine ev_ldc (q := 36) (v := (1000000 : Int32)) dX11_layLeast_34 rfl tw_1139 ?_
        exact ev_weak _ (mLe_some (mLe_some (mLe_some (mLe_none (mLe_none (mLe_none mLe_nil)))))) (e_X11_layLeast_J36 P o v1 v2 r18 (((64 : Int32) * v1) + v2) (1000000 : Int32) w _ hk  _ h hP)
def f_X11_layLeast (o : Nat) (w : mW) : Option (mW) := Option.bind (gI w (some o) 11 4) fun r19 => Option.bind (f_X11_layLeast_L10 o ((36 : Int32) * r19) mFuel (0 : Int32) w) fun e20 => Option.bind (f_X11_layLeast_L47 o mFuel (((36 : Int32) * r19) - (1 : Int32)) e20) fun e21 => some (e21)
set_option maxRecDepth 100000 in
set_option maxHeartbeats 4000000 in
theorem met_X11_layLeast (o : Nat) (w : mW) (res : mW) (h : f_X11_layLeast o w = some res) : mMet M_X11_layLeast 5 [vr ((some o))] w none res := by
  refine ev_met (n := 5) (by decide) rfl fun X => ?_
  unfold f_X11_layLeast at h
  show mEv X M_X11_layLeast 5 _ _ 0 [some (vr ((some o))), none, none, none, none, none] [] w
  refine ev_bipush (q := 2) (v := (36 : Int32)) dX11_layLeast_0 rfl (by decide) ?_
  refine ev_aload_n (q := 3) dX11_layLeast_2 rfl rfl ?_
  replace h := Option.bind_eq_some_iff.mp h; obtain ⟨r19, hr19, h⟩ := h
  refine ev_gI dX11_layLeast_3 fl_X11_119 hr19 rfl ?_
  refine ev_imul (q := 7) dX11_layLeast_6 rfl ?_
  refine ev_istore_n (q := 8) dX11_layLeast_7 rfl (by decide) ?_
  refine ev_iconst (q := 9) (v := (0 : Int32)) dX11_layLeast_8 rfl (by decide) ?_
  refine ev_istore_n (q := 10) dX11_layLeast_9 rfl (by decide) ?_
  replace h := Option.bind_eq_some_iff.mp h; obtain ⟨e20, he20, h⟩ := h
  refine ev_weak _ (mLe_some (mLe_some (mLe_some (mLe_none (mLe_none (mLe_none mLe_nil)))))) (e_X11_layLeast_L10 (fun z => e20 = z) o ((36 : Int32) * r19) (fun e20q hq => ?_) mFuel (0 : Int32) w _ he20 rfl)
  subst hq
  refine ev_iload_n (q := 44) dX11_layLeast_43 rfl rfl ?_
  refine ev_iconst (q := 45) (v := (1 : Int32)) dX11_layLeast_44 rfl (by decide) ?_
  refine ev_isub (q := 46) dX11_layLeast_45 rfl ?_
  refine ev_istore_n (q := 47) dX11_layLeast_46 rfl (by decide) ?_
  replace h := Option.bind_eq_some_iff.mp h; obtain ⟨e21, he21, h⟩ := h
  refine ev_weak _ (mLe_some (mLe_none (mLe_some (mLe_none (mLe_none (mLe_none mLe_nil)))))) (e_X11_layLeast_L47 (fun z => e21 = z) o (fun e21q hq => ?_) mFuel (((36 : Int32) * r19) - (1 : Int32)) e20 _ he21 rfl)
  subst hq
  cases h
  exact ev_vret dX11_layLeast_165 rfl
def f_X11_lieOf_J61 (kc : Int32 → Int32 → Int32 → Option (Int32)) (o : Nat) (v1 : Int32) (v2 : Int32) (v4 : Int32) (s0 : Int32) (w : mW) : Option (Int32) := kc v2 s0 (v4 + (1 : Int32))
set_option maxRecDepth 100000 in
set_option maxHeartbeats 4000000 in
theorem e_X11_lieOf_J61 {X : mXs} {r : Option mV} {w' : mW} (P : (Int32) → Prop) (o : Nat) (v1 : Int32) (v2 : Int32) (v4 : Int32) (s0 : Int32) (w : mW) (kc : Int32 → Int32 → Int32 → Option (Int32)) (hk : ∀ (u2 : Int32) (u3 : Int32) (u4 : Int32) (e : Int32), kc u2 u3 u4 = some e → P e → mEv X M_X11_lieOf 5 r w' 7 [some (vr ((some o))), some (vi v1), some (vi u2), some (vi u3), some (vi u4), none] [] w) (e : Int32) (h : f_X11_lieOf_J61 kc o v1 v2 v4 s0 w = some e) (hP : P e) : mEv X M_X11_lieOf 5 r w' 61 [some (vr ((some o))), some (vi v1), some (vi v2), none, some (vi v4), none] [vi s0] w := by
  unfold f_X11_lieOf_J61 at h
  refine ev_istore_n (q := 62) dX11_lieOf_61 rfl (by decide) ?_
  refine ev_iinc (q := 65) (v := v4 + (1 : Int32)) dX11_lieOf_62 rfl (by decide) rfl (by rfl) ?_
  refine ev_goto (q := 7) dX11_lieOf_65 (by decide) ?_
  exact ev_weak _ (mLe_some (mLe_some (mLe_some (mLe_some (mLe_some (mLe_none mLe_nil)))))) (hk v2 s0 (v4 + (1 : Int32)) _ h hP)
def f_X11_lieOf_J48 (kc : Int32 → Int32 → Int32 → Option (Int32)) (o : Nat) (v1 : Int32) (v3 : Int32) (v4 : Int32) (v5 : Int32) (s0 : Int32) (w : mW) : Option (Int32) := if v5 ≤ v3 then (f_X11_lieOf_J61 kc o v1 s0 v4 v3 w) else (f_X11_lieOf_J61 kc o v1 s0 v4 v5 w)
set_option maxRecDepth 100000 in
set_option maxHeartbeats 4000000 in
theorem e_X11_lieOf_J48 {X : mXs} {r : Option mV} {w' : mW} (P : (Int32) → Prop) (o : Nat) (v1 : Int32) (v3 : Int32) (v4 : Int32) (v5 : Int32) (s0 : Int32) (w : mW) (kc : Int32 → Int32 → Int32 → Option (Int32)) (hk : ∀ (u2 : Int32) (u3 : Int32) (u4 : Int32) (e : Int32), kc u2 u3 u4 = some e → P e → mEv X M_X11_lieOf 5 r w' 7 [some (vr ((some o))), some (vi v1), some (vi u2), some (vi u3), some (vi u4), none] [] w) (e : Int32) (h : f_X11_lieOf_J48 kc o v1 v3 v4 v5 s0 w = some e) (hP : P e) : mEv X M_X11_lieOf 5 r w' 48 [some (vr ((some o))), some (vi v1), none, some (vi v3), some (vi v4), some (vi v5)] [vi s0] w := by
  unfold f_X11_lieOf_J48 at h
  refine ev_istore_n (q := 49) dX11_lieOf_48 rfl (by decide) ?_
  refine ev_iload (q := 51) dX11_lieOf_49 rfl rfl ?_
  refine ev_iload_n (q := 52) dX11_lieOf_51 rfl rfl ?_
  by_cases hc : v5 ≤ v3
  · rw [if_pos hc] at h
    refine ev_icmp_le_t (q := 60) dX11_lieOf_52 (by decide) hc ?_
    refine ev_iload_n (q := 61) dX11_lieOf_60 rfl rfl ?_
    exact ev_weak _ (mLe_some (mLe_some (mLe_some (mLe_none (mLe_some (mLe_none mLe_nil)))))) (e_X11_lieOf_J61 P o v1 s0 v4 v3 w _ hk  _ h hP)
  · rw [if_neg hc] at h
    refine ev_icmp_le_f (q := 55) (t0 := 60) dX11_lieOf_52 (by decide) rfl hc ?_
    refine ev_iload (q := 57) dX11_lieOf_55 rfl rfl ?_
    refine ev_goto (q := 61) dX11_lieOf_57 (by decide) ?_
    exact ev_weak _ (mLe_some (mLe_some (mLe_some (mLe_none (mLe_some (mLe_none mLe_nil)))))) (e_X11_lieOf_J61 P o v1 s0 v4 v5 w _ hk  _ h hP)
def f_X11_lieOf_J34 (kc : Int32 → Int32 → Int32 → Option (Int32)) (o : Nat) (v1 : Int32) (v2 : Int32) (v3 : Int32) (v4 : Int32) (s0 : Int32) (w : mW) : Option (Int32) := if s0 ≤ v3 then (f_X11_lieOf_J48 kc o v1 v3 v4 s0 v2 w) else (f_X11_lieOf_J48 kc o v1 v3 v4 s0 v4 w)
set_option maxRecDepth 100000 in
set_option maxHeartbeats 4000000 in
theorem e_X11_lieOf_J34 {X : mXs} {r : Option mV} {w' : mW} (P : (Int32) → Prop) (o : Nat) (v1 : Int32) (v2 : Int32) (v3 : Int32) (v4 : Int32) (s0 : Int32) (w : mW) (kc : Int32 → Int32 → Int32 → Option (Int32)) (hk : ∀ (u2 : Int32) (u3 : Int32) (u4 : Int32) (e : Int32), kc u2 u3 u4 = some e → P e → mEv X M_X11_lieOf 5 r w' 7 [some (vr ((some o))), some (vi v1), some (vi u2), some (vi u3), some (vi u4), none] [] w) (e : Int32) (h : f_X11_lieOf_J34 kc o v1 v2 v3 v4 s0 w = some e) (hP : P e) : mEv X M_X11_lieOf 5 r w' 34 [some (vr ((some o))), some (vi v1), some (vi v2), some (vi v3), some (vi v4), none] [vi s0] w := by
  unfold f_X11_lieOf_J34 at h
  refine ev_istore (q := 36) dX11_lieOf_34 rfl (by decide) ?_
  refine ev_iload (q := 38) dX11_lieOf_36 rfl rfl ?_
  refine ev_iload_n (q := 39) dX11_lieOf_38 rfl rfl ?_
  by_cases hc : s0 ≤ v3
  · rw [if_pos hc] at h
    refine ev_icmp_le_t (q := 47) dX11_lieOf_39 (by decide) hc ?_
    refine ev_iload_n (q := 48) dX11_lieOf_47 rfl rfl ?_
    exact ev_weak _ (mLe_some (mLe_some (mLe_none (mLe_some (mLe_some (mLe_some mLe_nil)))))) (e_X11_lieOf_J48 P o v1 v3 v4 s0 v2 w _ hk  _ h hP)
  · rw [if_neg hc] at h
    refine ev_icmp_le_f (q := 42) (t0 := 47) dX11_lieOf_39 (by decide) rfl hc ?_
    refine ev_iload (q := 44) dX11_lieOf_42 rfl rfl ?_
    refine ev_goto (q := 48) dX11_lieOf_44 (by decide) ?_
    exact ev_weak _ (mLe_some (mLe_some (mLe_none (mLe_some (mLe_some (mLe_some mLe_nil)))))) (e_X11_lieOf_J48 P o v1 v3 v4 s0 v4 w _ hk  _ h hP)
def f_X11_lieOf_L7 (o : Nat) (v1 : Int32) (w : mW) : Nat → Int32 → Int32 → Int32 → Option (Int32)
  | 0, _, _, _ => none
  | n + 1, v2, v3, v4 => if (36 : Int32) ≤ v4 then (some (v2)) else (Option.bind (kO w (some o) 11) fun _ => Option.bind (f_X11_isFreeFor o v1 v4 w) fun r1 => if r1 = 0 then (f_X11_lieOf_J34 (f_X11_lieOf_L7 o v1 w n) o v1 v2 v3 v4 (-1 : Int32) w) else (Option.bind (kO w (some o) 11) fun _ => Option.bind (f_X11_tossesOver o v4 w) fun r3 => f_X11_lieOf_J34 (f_X11_lieOf_L7 o v1 w n) o v1 v2 v3 v4 r3 w))
set_option maxRecDepth 100000 in
set_option maxHeartbeats 4000000 in
theorem e_X11_lieOf_L7 {X : mXs} {r : Option mV} {w' : mW} (P : (Int32) → Prop) (o : Nat) (v1 : Int32) (w : mW) (hexit : ∀ y, P y → mEv X M_X11_lieOf 5 r w' 68 [none, none, some (vi y), none, none, none] [] w) : ∀ (n : Nat) (v2 : Int32) (v3 : Int32) (v4 : Int32) (e : Int32), f_X11_lieOf_L7 o v1 w n v2 v3 v4 = some e → P e → mEv X M_X11_lieOf 5 r w' 7 [some (vr ((some o))), some (vi v1), some (vi v2), some (vi v3), some (vi v4), none] [] w := by
  intro n
  induction n with
  | zero =>
    intro v2 v3 v4 e h hP
    rw [f_X11_lieOf_L7] at h
    cases h
  | succ n hk =>
    intro v2 v3 v4 e h hP
    rw [f_X11_lieOf_L7] at h
    refine ev_iload (q := 9) dX11_lieOf_7 rfl rfl ?_
    refine ev_bipush (q := 11) (v := (36 : Int32)) dX11_lieOf_9 rfl (by decide) ?_
    by_cases hc : (36 : Int32) ≤ v4
    · rw [if_pos hc] at h
      refine ev_icmp_ge_t (q := 68) dX11_lieOf_11 (by decide) hc ?_
      cases h
      exact ev_weak _ (mLe_none (mLe_none (mLe_some (mLe_none (mLe_none (mLe_none mLe_nil)))))) (hexit _ hP)
    · rw [if_neg hc] at h
      refine ev_icmp_ge_f (q := 14) (t0 := 68) dX11_lieOf_11 (by decide) rfl hc ?_
      refine ev_aload_n (q := 15) dX11_lieOf_14 rfl rfl ?_
      refine ev_iload_n (q := 16) dX11_lieOf_15 rfl rfl ?_
      refine ev_iload (q := 18) dX11_lieOf_16 rfl rfl ?_
      replace h := Option.bind_eq_some_iff.mp h; obtain ⟨q2, hq2, h⟩ := h
      obtain ⟨hxq2, fsq2, hkq2⟩ := kO_spec hq2
      cases hxq2
      replace h := Option.bind_eq_some_iff.mp h; obtain ⟨r1, hr1, h⟩ := h
      refine ev_invV (M1 := M_X11_isFreeFor) (as := [vi v1, vi v4]) (fs := fsq2) (ci := 11) dX11_lieOf_18 rfl tw_1049 cal_X11_isFreeFor tw_1051 tw_41 (by decide) rfl rfl (Nat.le_of_ble_eq_true rfl) hkq2 rfl (met_X11_isFreeFor o v1 v4 w _ hr1) ?_
      by_cases hc : r1 = 0
      · rw [if_pos hc] at h
        refine ev_if_eq_t (q := 33) dX11_lieOf_21 (by decide) hc ?_
        refine ev_iconst (q := 34) (v := (-1 : Int32)) dX11_lieOf_33 rfl (by decide) ?_
        exact ev_weak _ (mLe_some (mLe_some (mLe_some (mLe_some (mLe_some (mLe_none mLe_nil)))))) (e_X11_lieOf_J34 P o v1 v2 v3 v4 (-1 : Int32) w _ hk  _ h hP)
      · rw [if_neg hc] at h
        refine ev_if_eq_f (q := 24) (t0 := 33) dX11_lieOf_21 (by decide) rfl hc ?_
        refine ev_aload_n (q := 25) dX11_lieOf_24 rfl rfl ?_
        refine ev_iload (q := 27) dX11_lieOf_25 rfl rfl ?_
        replace h := Option.bind_eq_some_iff.mp h; obtain ⟨q4, hq4, h⟩ := h
        obtain ⟨hxq4, fsq4, hkq4⟩ := kO_spec hq4
        cases hxq4
        replace h := Option.bind_eq_some_iff.mp h; obtain ⟨r3, hr3, h⟩ := h
        refine ev_invV (M1 := M_X11_tossesOver) (as := [vi v4]) (fs := fsq4) (ci := 11) dX11_lieOf_27 rfl tw_1053 cal_X11_tossesOver tw_1055 tw_42 (by decide) rfl rfl (Nat.le_of_ble_eq_true rfl) hkq4 rfl (met_X11_tossesOver o v4 w _ hr3) ?_
        refine ev_goto (q := 34) dX11_lieOf_30 (by decide) ?_
        exact ev_weak _ (mLe_some (mLe_some (mLe_some (mLe_some (mLe_some (mLe_none mLe_nil)))))) (e_X11_lieOf_J34 P o v1 v2 v3 v4 r3 w _ hk  _ h hP)
def f_X11_lieOf (o : Nat) (v1 : Int32) (w : mW) : Option (Int32) := Option.bind (f_X11_lieOf_L7 o v1 w mFuel (-1 : Int32) (-1 : Int32) (0 : Int32)) fun e5 => some (e5)
set_option maxRecDepth 100000 in
set_option maxHeartbeats 4000000 in
theorem met_X11_lieOf (o : Nat) (v1 : Int32) (w : mW) (res : Int32) (h : f_X11_lieOf o v1 w = some res) : mMet M_X11_lieOf 5 [vr ((some o)), vi v1] w (some (vi res)) w := by
  refine ev_met (n := 4) (by decide) rfl fun X => ?_
  unfold f_X11_lieOf at h
  show mEv X M_X11_lieOf 5 _ _ 0 [some (vr ((some o))), some (vi v1), none, none, none, none] [] w
  refine ev_iconst (q := 1) (v := (-1 : Int32)) dX11_lieOf_0 rfl (by decide) ?_
  refine ev_istore_n (q := 2) dX11_lieOf_1 rfl (by decide) ?_
  refine ev_iconst (q := 3) (v := (-1 : Int32)) dX11_lieOf_2 rfl (by decide) ?_
  refine ev_istore_n (q := 4) dX11_lieOf_3 rfl (by decide) ?_
  refine ev_iconst (q := 5) (v := (0 : Int32)) dX11_lieOf_4 rfl (by decide) ?_
  refine ev_istore (q := 7) dX11_lieOf_5 rfl (by decide) ?_
  replace h := Option.bind_eq_some_iff.mp h; obtain ⟨e5, he5, h⟩ := h
  refine ev_weak _ (mLe_some (mLe_some (mLe_some (mLe_some (mLe_some (mLe_none mLe_nil)))))) (e_X11_lieOf_L7 (fun z => e5 = z) o v1 w (fun e5q hq => ?_) mFuel (-1 : Int32) (-1 : Int32) (0 : Int32) _ he5 rfl)
  subst hq
  refine ev_iload_n (q := 69) dX11_lieOf_68 rfl rfl ?_
  cases h
  exact ev_iret dX11_lieOf_69 rfl rfl
