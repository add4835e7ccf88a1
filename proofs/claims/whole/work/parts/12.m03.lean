def f_X2_wake_J30 (kc : Int32 → mW → Option (mW)) (o : Nat) (v1 : Int32) (v2 : Int32) (s0 : Option Nat) (w : mW) : Option (mW) := Option.bind (f_X10_at s0 v2 w) fun r1 => Option.bind (f_X10_put s0 v2 (r1 + (1 : Int32)) w) fun w2 => kc (v2 + (1 : Int32)) w2
set_option maxRecDepth 100000 in
set_option maxHeartbeats 4000000 in
theorem e_X2_wake_J30 {X : mXs} {r : Option mV} {w' : mW} (P : (mW) → Prop) (o : Nat) (v1 : Int32) (v2 : Int32) (s0 : Option Nat) (w : mW) (kc : Int32 → mW → Option (mW)) (hk : ∀ (u2 : Int32) (uw : mW) (e : mW), kc u2 uw = some e → P e → mEv X M_X2_wake 1 r w' 2 [some (vr ((some o))), some (vi v1), some (vi u2), none] [] uw) (e : mW) (h : f_X2_wake_J30 kc o v1 v2 s0 w = some e) (hP : P e) : mEv X M_X2_wake 1 r w' 30 [some (vr ((some o))), some (vi v1), some (vi v2), none] [vr s0] w := by
  unfold f_X2_wake_J30 at h
  refine ev_astore_n (q := 31) dX2_wake_30 rfl (by decide) ?_
  refine ev_aload_n (q := 32) dX2_wake_31 rfl rfl ?_
  refine ev_iload_n (q := 33) dX2_wake_32 rfl rfl ?_
  refine ev_aload_n (q := 34) dX2_wake_33 rfl rfl ?_
  refine ev_iload_n (q := 35) dX2_wake_34 rfl rfl ?_
  replace h := Option.bind_eq_some_iff.mp h; obtain ⟨r1, hr1, h⟩ := h
  refine ev_invSN (M1 := M_X10_at) (as := [vr s0, vi v2]) dX2_wake_35 rfl tw_678 cal_X10_at tw_308 (by decide) rfl rfl (Nat.le_of_ble_eq_true rfl) (met_X10_at s0 v2 w _ hr1) ?_
  refine ev_iconst (q := 39) (v := (1 : Int32)) dX2_wake_38 rfl (by decide) ?_
  refine ev_iadd (q := 40) dX2_wake_39 rfl ?_
  replace h := Option.bind_eq_some_iff.mp h; obtain ⟨w2, hw2, h⟩ := h
  refine ev_invSN (M1 := M_X10_put) (as := [vr s0, vi v2, vi (r1 + (1 : Int32))]) dX2_wake_40 rfl tw_679 cal_X10_put tw_293 (by decide) rfl rfl (Nat.le_of_ble_eq_true rfl) (met_X10_put s0 v2 (r1 + (1 : Int32)) w _ hw2) ?_
  refine ev_iinc (q := 46) (v := v2 + (1 : Int32)) dX2_wake_43 rfl (by decide) rfl (by rfl) ?_
  refine ev_goto (q := 2) dX2_wake_46 (by decide) ?_
  exact ev_weak _ (mLe_some (mLe_some (mLe_some (mLe_none mLe_nil)))) (hk (v2 + (1 : Int32)) w2 _ h hP)
def f_X2_wake_L2 (o : Nat) (v1 : Int32) : Nat → Int32 → mW → Option (mW)
  | 0, _, _ => none
  | n + 1, v2, w => if v1 ≤ v2 then (some (w)) else (Option.bind (gI w (some o) 2 7) fun r3 => if (r3 >>> (v2 &&& 31)) &&& (1 : Int32) = (1 : Int32) then (Option.bind (gR w (some o) 2 1) fun r5 => f_X2_wake_J30 (f_X2_wake_L2 o v1 n) o v1 v2 r5 w) else (Option.bind (gR w (some o) 2 2) fun r4 => f_X2_wake_J30 (f_X2_wake_L2 o v1 n) o v1 v2 r4 w))
set_option maxRecDepth 100000 in
set_option maxHeartbeats 4000000 in
theorem e_X2_wake_L2 {X : mXs} {r : Option mV} {w' : mW} (P : (mW) → Prop) (o : Nat) (v1 : Int32) (hexit : ∀ y, P y → mEv X M_X2_wake 1 r w' 49 [some (vr ((some o))), none, none, none] [] y) : ∀ (n : Nat) (v2 : Int32) (w : mW) (e : mW), f_X2_wake_L2 o v1 n v2 w = some e → P e → mEv X M_X2_wake 1 r w' 2 [some (vr ((some o))), some (vi v1), some (vi v2), none] [] w := by
  intro n
  induction n with
  | zero =>
    intro v2 w e h hP
    rw [f_X2_wake_L2] at h
    cases h
  | succ n hk =>
    intro v2 w e h hP
    rw [f_X2_wake_L2] at h
    refine ev_iload_n (q := 3) dX2_wake_2 rfl rfl ?_
    refine ev_iload_n (q := 4) dX2_wake_3 rfl rfl ?_
    by_cases hc : v1 ≤ v2
    · rw [if_pos hc] at h
      refine ev_icmp_ge_t (q := 49) dX2_wake_4 (by decide) hc ?_
      cases h
      exact ev_weak _ (mLe_some (mLe_none (mLe_none (mLe_none mLe_nil)))) (hexit _ hP)
    · rw [if_neg hc] at h
      refine ev_icmp_ge_f (q := 7) (t0 := 49) dX2_wake_4 (by decide) rfl hc ?_
      refine ev_aload_n (q := 8) dX2_wake_7 rfl rfl ?_
      replace h := Option.bind_eq_some_iff.mp h; obtain ⟨r3, hr3, h⟩ := h
      refine ev_gI dX2_wake_8 fl_X2_54 hr3 rfl ?_
      refine ev_iload_n (q := 12) dX2_wake_11 rfl rfl ?_
      refine ev_ishr (q := 13) dX2_wake_12 rfl ?_
      refine ev_iconst (q := 14) (v := (1 : Int32)) dX2_wake_13 rfl (by decide) ?_
      refine ev_iand (q := 15) dX2_wake_14 rfl ?_
      refine ev_iconst (q := 16) (v := (1 : Int32)) dX2_wake_15 rfl (by decide) ?_
      by_cases hc : (r3 >>> (v2 &&& 31)) &&& (1 : Int32) = (1 : Int32)
      · rw [if_pos hc] at h
        refine ev_icmp_ne_f (q := 19) (t0 := 26) dX2_wake_16 (by decide) rfl hc ?_
        refine ev_aload_n (q := 20) dX2_wake_19 rfl rfl ?_
        replace h := Option.bind_eq_some_iff.mp h; obtain ⟨r5, hr5, h⟩ := h
        refine ev_gR dX2_wake_20 fl_X2_15 hr5 rfl ?_
        refine ev_goto (q := 30) dX2_wake_23 (by decide) ?_
        exact ev_weak _ (mLe_some (mLe_some (mLe_some (mLe_none mLe_nil)))) (e_X2_wake_J30 P o v1 v2 r5 w _ hk  _ h hP)
      · rw [if_neg hc] at h
        refine ev_icmp_ne_t (q := 26) dX2_wake_16 (by decide) hc ?_
        refine ev_aload_n (q := 27) dX2_wake_26 rfl rfl ?_
        replace h := Option.bind_eq_some_iff.mp h; obtain ⟨r4, hr4, h⟩ := h
        refine ev_gR dX2_wake_27 fl_X2_18 hr4 rfl ?_
        exact ev_weak _ (mLe_some (mLe_some (mLe_some (mLe_none mLe_nil)))) (e_X2_wake_J30 P o v1 v2 r4 w _ hk  _ h hP)
def f_X2_wake (o : Nat) (v1 : Int32) (w : mW) : Option (mW) := Option.bind (f_X2_wake_L2 o v1 mFuel (0 : Int32) w) fun e6 => Option.bind (pI e6 (some o) 2 7 (0 : Int32)) fun w7 => Option.bind (gI w7 (some o) 2 10) fun r8 => Option.bind (pI w7 (some o) 2 10 (r8 + (1 : Int32))) fun w9 => some (w9)
set_option maxRecDepth 100000 in
set_option maxHeartbeats 4000000 in
theorem met_X2_wake (o : Nat) (v1 : Int32) (w : mW) (res : mW) (h : f_X2_wake o v1 w = some res) : mMet M_X2_wake 1 [vr ((some o)), vi v1] w none res := by
  refine ev_met (n := 2) (by decide) rfl fun X => ?_
  unfold f_X2_wake at h
  show mEv X M_X2_wake 1 _ _ 0 [some (vr ((some o))), some (vi v1), none, none] [] w
  refine ev_iconst (q := 1) (v := (0 : Int32)) dX2_wake_0 rfl (by decide) ?_
  refine ev_istore_n (q := 2) dX2_wake_1 rfl (by decide) ?_
  replace h := Option.bind_eq_some_iff.mp h; obtain ⟨e6, he6, h⟩ := h
  refine ev_weak _ (mLe_some (mLe_some (mLe_some (mLe_none mLe_nil)))) (e_X2_wake_L2 (fun z => e6 = z) o v1 (fun e6q hq => ?_) mFuel (0 : Int32) w _ he6 rfl)
  subst hq
  refine ev_aload_n (q := 50) dX2_wake_49 rfl rfl ?_
  refine ev_iconst (q := 51) (v := (0 : Int32)) dX2_wake_50 rfl (by decide) ?_
  replace h := Option.bind_eq_some_iff.mp h; obtain ⟨w7, hw7, h⟩ := h
  refine ev_pI dX2_wake_51 fp_X2_54 hw7 rfl ?_
  refine ev_aload_n (q := 55) dX2_wake_54 rfl rfl ?_
  refine ev_dup (q := 56) dX2_wake_55 rfl rfl ?_
  replace h := Option.bind_eq_some_iff.mp h; obtain ⟨r8, hr8, h⟩ := h
  refine ev_gI dX2_wake_56 fl_X2_63 hr8 rfl ?_
  refine ev_iconst (q := 60) (v := (1 : Int32)) dX2_wake_59 rfl (by decide) ?_
  refine ev_iadd (q := 61) dX2_wake_60 rfl ?_
  replace h := Option.bind_eq_some_iff.mp h; obtain ⟨w9, hw9, h⟩ := h
  refine ev_pI dX2_wake_61 fp_X2_63 hw9 rfl ?_
  cases h
  exact ev_vret dX2_wake_64 rfl
def f_X3_init (o : Nat) (w : mW) : Option (mW) := Option.bind (some (w ++ [.inr (.inl (36, fun _ => 0))])) fun w1 => Option.bind (pR w1 (some o) 3 0 (some w.length)) fun w2 => some (w2)
set_option maxRecDepth 100000 in
set_option maxHeartbeats 4000000 in
theorem met_X3_init (o : Nat) (w : mW) (res : mW) (h : f_X3_init o w = some res) : mMet M_X3_init 1 [vr ((some o))] w none res := by
  refine ev_met (n := 0) (by decide) rfl fun X => ?_
  unfold f_X3_init at h
  show mEv X M_X3_init 1 _ _ 0 [some (vr ((some o)))] [] w
  refine ev_aload_n (q := 1) dX3_init_0 rfl rfl ?_
  refine ev_obj (q := 4) dX3_init_1 rfl tw_94 tw_obji tw_objc (by decide) (Nat.le_of_ble_eq_true rfl) ?_
  refine ev_aload_n (q := 5) dX3_init_4 rfl rfl ?_
  refine ev_bipush (q := 7) (v := (36 : Int32)) dX3_init_5 rfl (by decide) ?_
  replace h := Option.bind_eq_some_iff.mp h; obtain ⟨w1, hw1, h⟩ := h
  cases hw1
  refine ev_newi (N := 36) dX3_init_7 rfl tw_106 (by decide) (by decide) (by decide) ?_
  replace h := Option.bind_eq_some_iff.mp h; obtain ⟨w2, hw2, h⟩ := h
  refine ev_pRF dX3_init_9 rfl mFit_a fp_X3_9 hw2 rfl ?_
  cases h
  exact ev_vret dX3_init_12 rfl
def f_X3_append (o : Nat) (v1 : Int32) (w : mW) : Option (mW) := Option.bind (gR w (some o) 3 0) fun r1 => Option.bind (gI w (some o) 3 1) fun r2 => Option.bind (f_X10_put r1 r2 v1 w) fun w3 => Option.bind (gI w3 (some o) 3 1) fun r4 => Option.bind (pI w3 (some o) 3 1 (r4 + (1 : Int32))) fun w5 => some (w5)
set_option maxRecDepth 100000 in
set_option maxHeartbeats 4000000 in
theorem met_X3_append (o : Nat) (v1 : Int32) (w : mW) (res : mW) (h : f_X3_append o v1 w = some res) : mMet M_X3_append 1 [vr ((some o)), vi v1] w none res := by
  refine ev_met (n := 0) (by decide) rfl fun X => ?_
  unfold f_X3_append at h
  show mEv X M_X3_append 1 _ _ 0 [some (vr ((some o))), some (vi v1)] [] w
  refine ev_aload_n (q := 1) dX3_append_0 rfl rfl ?_
  replace h := Option.bind_eq_some_iff.mp h; obtain ⟨r1, hr1, h⟩ := h
  refine ev_gR dX3_append_1 fl_X3_9 hr1 rfl ?_
  refine ev_aload_n (q := 5) dX3_append_4 rfl rfl ?_
  replace h := Option.bind_eq_some_iff.mp h; obtain ⟨r2, hr2, h⟩ := h
  refine ev_gI dX3_append_5 fl_X3_15 hr2 rfl ?_
  refine ev_iload_n (q := 9) dX3_append_8 rfl rfl ?_
  replace h := Option.bind_eq_some_iff.mp h; obtain ⟨w3, hw3, h⟩ := h
  refine ev_invSN (M1 := M_X10_put) (as := [vr r1, vi r2, vi v1]) dX3_append_9 rfl tw_292 cal_X10_put tw_293 (by decide) rfl rfl (Nat.le_of_ble_eq_true rfl) (met_X10_put r1 r2 v1 w _ hw3) ?_
  refine ev_aload_n (q := 13) dX3_append_12 rfl rfl ?_
  refine ev_dup (q := 14) dX3_append_13 rfl rfl ?_
  replace h := Option.bind_eq_some_iff.mp h; obtain ⟨r4, hr4, h⟩ := h
  refine ev_gI dX3_append_14 fl_X3_15 hr4 rfl ?_
  refine ev_iconst (q := 18) (v := (1 : Int32)) dX3_append_17 rfl (by decide) ?_
  refine ev_iadd (q := 19) dX3_append_18 rfl ?_
  replace h := Option.bind_eq_some_iff.mp h; obtain ⟨w5, hw5, h⟩ := h
  refine ev_pI dX3_append_19 fp_X3_15 hw5 rfl ?_
  cases h
  exact ev_vret dX3_append_22 rfl
def f_X4_init (o : Nat) (w : mW) : Option (mW) := Option.bind (some (w ++ [.inr (.inl (144, fun _ => 0))])) fun w1 => Option.bind (pR w1 (some o) 4 0 (some w.length)) fun w2 => Option.bind (some (w2 ++ [.inr (.inl (144, fun _ => 0))])) fun w3 => Option.bind (pR w3 (some o) 4 1 (some w2.length)) fun w4 => Option.bind (some (w4 ++ [.inr (.inl (64, fun _ => 0))])) fun w5 => Option.bind (pR w5 (some o) 4 2 (some w4.length)) fun w6 => Option.bind (some (w6 ++ [.inr (.inl (64, fun _ => 0))])) fun w7 => Option.bind (pR w7 (some o) 4 3 (some w6.length)) fun w8 => Option.bind (some (w8 ++ [.inr (.inl (6, fun _ => 0))])) fun w9 => Option.bind (pR w9 (some o) 4 4 (some w8.length)) fun w10 => some (w10)
set_option maxRecDepth 100000 in
set_option maxHeartbeats 4000000 in
theorem met_X4_init (o : Nat) (w : mW) (res : mW) (h : f_X4_init o w = some res) : mMet M_X4_init 1 [vr ((some o))] w none res := by
  refine ev_met (n := 0) (by decide) rfl fun X => ?_
  unfold f_X4_init at h
  show mEv X M_X4_init 1 _ _ 0 [some (vr ((some o)))] [] w
  refine ev_aload_n (q := 1) dX4_init_0 rfl rfl ?_
  refine ev_obj (q := 4) dX4_init_1 rfl tw_227 tw_obji tw_objc (by decide) (Nat.le_of_ble_eq_true rfl) ?_
  refine ev_aload_n (q := 5) dX4_init_4 rfl rfl ?_
  refine ev_sipush (q := 8) (v := (144 : Int32)) dX4_init_5 rfl (by decide) ?_
  replace h := Option.bind_eq_some_iff.mp h; obtain ⟨w1, hw1, h⟩ := h
  cases hw1
  refine ev_newi (N := 144) dX4_init_8 rfl tw_106 (by decide) (by decide) (by decide) ?_
  replace h := Option.bind_eq_some_iff.mp h; obtain ⟨w2, hw2, h⟩ := h
  refine ev_pRF dX4_init_10 rfl mFit_a fp_X4_9 hw2 rfl ?_
  refine ev_aload_n (q := 14) dX4_init_13 rfl rfl ?_
  refine ev_sipush (q := 17) (v := (144 : Int32)) dX4_init_14 rfl (by decide) ?_
  replace h := Option.bind_eq_some_iff.mp h; obtain ⟨w3, hw3, h⟩ := h
  cases hw3
  refine ev_newi (N := 144) dX4_init_17 rfl tw_106 (by decide) (by decide) (by decide) ?_
  replace h := Option.bind_eq_some_iff.mp h; obtain ⟨w4, hw4, h⟩ := h
  refine ev_pRF dX4_init_19 rfl mFit_a fp_X4_15 hw4 rfl ?_
  refine ev_aload_n (q := 23) dX4_init_22 rfl rfl ?_
  refine ev_bipush (q := 25) (v := (64 : Int32)) dX4_init_23 rfl (by decide) ?_
  replace h := Option.bind_eq_some_iff.mp h; obtain ⟨w5, hw5, h⟩ := h
  cases hw5
  refine ev_newi (N := 64) dX4_init_25 rfl tw_106 (by decide) (by decide) (by decide) ?_
  replace h := Option.bind_eq_some_iff.mp h; obtain ⟨w6, hw6, h⟩ := h
  refine ev_pRF dX4_init_27 rfl mFit_a fp_X4_18 hw6 rfl ?_
  refine ev_aload_n (q := 31) dX4_init_30 rfl rfl ?_
  refine ev_bipush (q := 33) (v := (64 : Int32)) dX4_init_31 rfl (by decide) ?_
  replace h := Option.bind_eq_some_iff.mp h; obtain ⟨w7, hw7, h⟩ := h
  cases hw7
  refine ev_newi (N := 64) dX4_init_33 rfl tw_106 (by decide) (by decide) (by decide) ?_
  replace h := Option.bind_eq_some_iff.mp h; obtain ⟨w8, hw8, h⟩ := h
  refine ev_pRF dX4_init_35 rfl mFit_a fp_X4_21 hw8 rfl ?_
  refine ev_aload_n (q := 39) dX4_init_38 rfl rfl ?_
  refine ev_bipush (q := 41) (v := (6 : Int32)) dX4_init_39 rfl (by decide) ?_
  replace h := Option.bind_eq_some_iff.mp h; obtain ⟨w9, hw9, h⟩ := h
  cases hw9
  refine ev_newi (N := 6) dX4_init_41 rfl tw_106 (by decide) (by decide) (by decide) ?_
  replace h := Option.bind_eq_some_iff.mp h; obtain ⟨w10, hw10, h⟩ := h
  refine ev_pRF dX4_init_43 rfl mFit_a fp_X4_24 hw10 rfl ?_
  cases h
  exact ev_vret dX4_init_46 rfl
def f_X4_begin_L16 (o : Nat) : Nat → Int32 → mW → Option (mW)
  | 0, _, _ => none
  | n + 1, v1, w => if (64 : Int32) ≤ v1 then (some (w)) else (Option.bind (gR w (some o) 4 2) fun r1 => Option.bind (f_X10_put r1 v1 (1048576 : Int32) w) fun w2 => (f_X4_begin_L16 o n) (v1 + (1 : Int32)) w2)
set_option maxRecDepth 100000 in
set_option maxHeartbeats 4000000 in
theorem e_X4_begin_L16 {X : mXs} {r : Option mV} {w' : mW} (P : (mW) → Prop) (o : Nat) (hexit : ∀ y, P y → mEv X M_X4_begin 1 r w' 38 [none, none] [] y) : ∀ (n : Nat) (v1 : Int32) (w : mW) (e : mW), f_X4_begin_L16 o n v1 w = some e → P e → mEv X M_X4_begin 1 r w' 16 [some (vr ((some o))), some (vi v1)] [] w := by
  intro n
  induction n with
  | zero =>
    intro v1 w e h hP
    rw [f_X4_begin_L16] at h
    cases h
  | succ n hk =>
    intro v1 w e h hP
    rw [f_X4_begin_L16] at h
    refine ev_iload_n (q := 17) dX4_begin_16 rfl rfl ?_
    refine ev_bipush (q := 19) (v := (64 : Int32)) dX4_begin_17 rfl (by decide) ?_
    by_cases hc : (64 : Int32) ≤ v1
    · rw [if_pos hc] at h
      refine ev_icmp_ge_t (q := 38) dX4_begin_19 (by decide) hc ?_
      cases h
      exact ev_weak _ (mLe_none (mLe_none mLe_nil)) (hexit _ hP)
    · rw [if_neg hc] at h
      refine ev_icmp_ge_f (q := 22) (t0 := 38) dX4_begin_19 (by decide) rfl hc ?_
      refine ev_aload_n (q := 23) dX4_begin_22 rfl rfl ?_
      replace h := Option.bind_eq_some_iff.mp h; obtain ⟨r1, hr1, h⟩ := h
      refine ev_gR dX4_begin_23 fl_X4_18 hr1 rfl ?_
      refine ev_iload_n (q := 27) dX4_begin_26 rfl rfl ?_
      refine ev_ldc (q := 29) (v := (1048576 : Int32)) dX4_begin_27 rfl tw_710 ?_
      replace h := Option.bind_eq_some_iff.mp h; obtain ⟨w2, hw2, h⟩ := h
      refine ev_invSN (M1 := M_X10_put) (as := [vr r1, vi v1, vi ((1048576 : Int32))]) dX4_begin_29 rfl tw_711 cal_X10_put tw_293 (by decide) rfl rfl (Nat.le_of_ble_eq_true rfl) (met_X10_put r1 v1 (1048576 : Int32) w _ hw2) ?_
      refine ev_iinc (q := 35) (v := v1 + (1 : Int32)) dX4_begin_32 rfl (by decide) rfl (by rfl) ?_
      refine ev_goto (q := 16) dX4_begin_35 (by decide) ?_
      exact ev_weak _ (mLe_some (mLe_some mLe_nil)) (hk (v1 + (1 : Int32)) w2 _ h hP)
def f_X4_begin (o : Nat) (w : mW) : Option (mW) := Option.bind (gR w (some o) 4 0) fun r3 => Option.bind (f_X10_clear r3 w) fun w4 => Option.bind (gR w4 (some o) 4 1) fun r5 => Option.bind (f_X10_clear r5 w4) fun w6 => Option.bind (f_X4_begin_L16 o mFuel (0 : Int32) w6) fun e7 => some (e7)
set_option maxRecDepth 100000 in
set_option maxHeartbeats 4000000 in
theorem met_X4_begin (o : Nat) (w : mW) (res : mW) (h : f_X4_begin o w = some res) : mMet M_X4_begin 1 [vr ((some o))] w none res := by
  refine ev_met (n := 1) (by decide) rfl fun X => ?_
  unfold f_X4_begin at h
  show mEv X M_X4_begin 1 _ _ 0 [some (vr ((some o))), none] [] w
  refine ev_aload_n (q := 1) dX4_begin_0 rfl rfl ?_
  replace h := Option.bind_eq_some_iff.mp h; obtain ⟨r3, hr3, h⟩ := h
  refine ev_gR dX4_begin_1 fl_X4_9 hr3 rfl ?_
  replace h := Option.bind_eq_some_iff.mp h; obtain ⟨w4, hw4, h⟩ := h
  refine ev_invSN (M1 := M_X10_clear) (as := [vr r3]) dX4_begin_4 rfl tw_709 cal_X10_clear tw_458 (by decide) rfl rfl (Nat.le_of_ble_eq_true rfl) (met_X10_clear r3 w _ hw4) ?_
  refine ev_aload_n (q := 8) dX4_begin_7 rfl rfl ?_
  replace h := Option.bind_eq_some_iff.mp h; obtain ⟨r5, hr5, h⟩ := h
  refine ev_gR dX4_begin_8 fl_X4_15 hr5 rfl ?_
  replace h := Option.bind_eq_some_iff.mp h; obtain ⟨w6, hw6, h⟩ := h
  refine ev_invSN (M1 := M_X10_clear) (as := [vr r5]) dX4_begin_11 rfl tw_709 cal_X10_clear tw_458 (by decide) rfl rfl (Nat.le_of_ble_eq_true rfl) (met_X10_clear r5 w4 _ hw6) ?_
  refine ev_iconst (q := 15) (v := (0 : Int32)) dX4_begin_14 rfl (by decide) ?_
  refine ev_istore_n (q := 16) dX4_begin_15 rfl (by decide) ?_
  replace h := Option.bind_eq_some_iff.mp h; obtain ⟨e7, he7, h⟩ := h
  refine ev_weak _ (mLe_some (mLe_some mLe_nil)) (e_X4_begin_L16 (fun z => e7 = z) o (fun e7q hq => ?_) mFuel (0 : Int32) w6 _ he7 rfl)
  subst hq
  cases h
  exact ev_vret dX4_begin_38 rfl
def f_X4_firstFor_J58 (kc : Int32 → Option ((Int32) ⊕ (Unit))) (o : Nat) (v1 : Int32) (v2 : Int32) (w : mW) : Option ((Int32) ⊕ (Unit)) := kc (v2 + (1 : Int32))
set_option maxRecDepth 100000 in
set_option maxHeartbeats 4000000 in
theorem e_X4_firstFor_J58 {X : mXs} {r : Option mV} {w' : mW} (P : ((Int32) ⊕ (Unit)) → Prop) (o : Nat) (v1 : Int32) (v2 : Int32) (w : mW) (kc : Int32 → Option ((Int32) ⊕ (Unit))) (hk : ∀ (u2 : Int32) (e : (Int32) ⊕ (Unit)), kc u2 = some e → P e → mEv X M_X4_firstFor 1 r w' 2 [some (vr ((some o))), some (vi v1), some (vi u2), none] [] w) (e : (Int32) ⊕ (Unit)) (h : f_X4_firstFor_J58 kc o v1 v2 w = some e) (hP : P e) : mEv X M_X4_firstFor 1 r w' 58 [some (vr ((some o))), some (vi v1), some (vi v2), none] [] w := by
  unfold f_X4_firstFor_J58 at h
  refine ev_iinc (q := 61) (v := v2 + (1 : Int32)) dX4_firstFor_58 rfl (by decide) rfl (by rfl) ?_
  refine ev_goto (q := 2) dX4_firstFor_61 (by decide) ?_
  exact ev_weak _ (mLe_some (mLe_some (mLe_some (mLe_none mLe_nil)))) (hk (v2 + (1 : Int32)) _ h hP)
def f_X4_firstFor_L2 (o : Nat) (v1 : Int32) (w : mW) : Nat → Int32 → Option ((Int32) ⊕ (Unit))
  | 0, _ => none
  | n + 1, v2 => if (144 : Int32) ≤ v2 then (some (.inr ())) else (Option.bind (gR w (some o) 4 0) fun r1 => Option.bind (f_X10_at r1 v2 w) fun r2 => if r2 &&& v1 = 0 then (f_X4_firstFor_J58 (f_X4_firstFor_L2 o v1 w n) o v1 v2 w) else (Option.bind (gR w (some o) 4 1) fun r3 => Option.bind (f_X10_at r3 v2 w) fun r4 => Option.bind (gR w (some o) 4 3) fun r5 => Option.bind (f_X10_at r5 (v1 &&& (r2 ^^^ (-1 : Int32))) w) fun r6 => Option.bind (gR w (some o) 4 3) fun r7 => Option.bind (f_X10_at r7 v1 w) fun r8 => if r4 + r6 = r8 then (some (.inl v2)) else (f_X4_firstFor_J58 (f_X4_firstFor_L2 o v1 w n) o v1 v2 w)))
set_option maxRecDepth 100000 in
set_option maxHeartbeats 4000000 in
theorem e_X4_firstFor_L2 {X : mXs} {r : Option mV} {w' : mW} (P : ((Int32) ⊕ (Unit)) → Prop) (o : Nat) (v1 : Int32) (w : mW) (hret : ∀ y, P (.inl y) → r = (some (vi y)) ∧ w' = w) (hexit : ∀ y, P (.inr y) → mEv X M_X4_firstFor 1 r w' 64 [none, none, none, none] [] w) : ∀ (n : Nat) (v2 : Int32) (e : (Int32) ⊕ (Unit)), f_X4_firstFor_L2 o v1 w n v2 = some e → P e → mEv X M_X4_firstFor 1 r w' 2 [some (vr ((some o))), some (vi v1), some (vi v2), none] [] w := by
  intro n
  induction n with
  | zero =>
    intro v2 e h hP
    rw [f_X4_firstFor_L2] at h
    cases h
  | succ n hk =>
    intro v2 e h hP
    rw [f_X4_firstFor_L2] at h
    refine ev_iload_n (q := 3) dX4_firstFor_2 rfl rfl ?_
    refine ev_sipush (q := 6) (v := (144 : Int32)) dX4_firstFor_3 rfl (by decide) ?_
    by_cases hc : (144 : Int32) ≤ v2
    · rw [if_pos hc] at h
      refine ev_icmp_ge_t (q := 64) dX4_firstFor_6 (by decide) hc ?_
      cases h
      exact ev_weak _ (mLe_none (mLe_none (mLe_none (mLe_none mLe_nil)))) (hexit _ hP)
    · rw [if_neg hc] at h
      refine ev_icmp_ge_f (q := 9) (t0 := 64) dX4_firstFor_6 (by decide) rfl hc ?_
      refine ev_aload_n (q := 10) dX4_firstFor_9 rfl rfl ?_
      replace h := Option.bind_eq_some_iff.mp h; obtain ⟨r1, hr1, h⟩ := h
      refine ev_gR dX4_firstFor_10 fl_X4_9 hr1 rfl ?_
      refine ev_iload_n (q := 14) dX4_firstFor_13 rfl rfl ?_
      replace h := Option.bind_eq_some_iff.mp h; obtain ⟨r2, hr2, h⟩ := h
      refine ev_invSN (M1 := M_X10_at) (as := [vr r1, vi v2]) dX4_firstFor_14 rfl tw_716 cal_X10_at tw_308 (by decide) rfl rfl (Nat.le_of_ble_eq_true rfl) (met_X10_at r1 v2 w _ hr2) ?_
      refine ev_istore_n (q := 18) dX4_firstFor_17 rfl (by decide) ?_
      refine ev_iload_n (q := 19) dX4_firstFor_18 rfl rfl ?_
      refine ev_iload_n (q := 20) dX4_firstFor_19 rfl rfl ?_
      refine ev_iand (q := 21) dX4_firstFor_20 rfl ?_
      by_cases hc : r2 &&& v1 = 0
      · rw [if_pos hc] at h
        refine ev_if_eq_t (q := 58) dX4_firstFor_21 (by decide) hc ?_
        exact ev_weak _ (mLe_some (mLe_some (mLe_some (mLe_none mLe_nil)))) (e_X4_firstFor_J58 P o v1 v2 w _ hk  _ h hP)
      · rw [if_neg hc] at h
        refine ev_if_eq_f (q := 24) (t0 := 58) dX4_firstFor_21 (by decide) rfl hc ?_
        refine ev_aload_n (q := 25) dX4_firstFor_24 rfl rfl ?_
        replace h := Option.bind_eq_some_iff.mp h; obtain ⟨r3, hr3, h⟩ := h
        refine ev_gR dX4_firstFor_25 fl_X4_15 hr3 rfl ?_
        refine ev_iload_n (q := 29) dX4_firstFor_28 rfl rfl ?_
        replace h := Option.bind_eq_some_iff.mp h; obtain ⟨r4, hr4, h⟩ := h
        refine ev_invSN (M1 := M_X10_at) (as := [vr r3, vi v2]) dX4_firstFor_29 rfl tw_716 cal_X10_at tw_308 (by decide) rfl rfl (Nat.le_of_ble_eq_true rfl) (met_X10_at r3 v2 w _ hr4) ?_
        refine ev_aload_n (q := 33) dX4_firstFor_32 rfl rfl ?_
        replace h := Option.bind_eq_some_iff.mp h; obtain ⟨r5, hr5, h⟩ := h
        refine ev_gR dX4_firstFor_33 fl_X4_21 hr5 rfl ?_
        refine ev_iload_n (q := 37) dX4_firstFor_36 rfl rfl ?_
        refine ev_iload_n (q := 38) dX4_firstFor_37 rfl rfl ?_
        refine ev_iconst (q := 39) (v := (-1 : Int32)) dX4_firstFor_38 rfl (by decide) ?_
        refine ev_ixor (q := 40) dX4_firstFor_39 rfl ?_
        refine ev_iand (q := 41) dX4_firstFor_40 rfl ?_
        replace h := Option.bind_eq_some_iff.mp h; obtain ⟨r6, hr6, h⟩ := h
        refine ev_invSN (M1 := M_X10_at) (as := [vr r5, vi (v1 &&& (r2 ^^^ (-1 : Int32)))]) dX4_firstFor_41 rfl tw_716 cal_X10_at tw_308 (by decide) rfl rfl (Nat.le_of_ble_eq_true rfl) (met_X10_at r5 (v1 &&& (r2 ^^^ (-1 : Int32))) w _ hr6) ?_
        refine ev_iadd (q := 45) dX4_firstFor_44 rfl ?_
        refine ev_aload_n (q := 46) dX4_firstFor_45 rfl rfl ?_
        replace h := Option.bind_eq_some_iff.mp h; obtain ⟨r7, hr7, h⟩ := h
        refine ev_gR dX4_firstFor_46 fl_X4_21 hr7 rfl ?_
        refine ev_iload_n (q := 50) dX4_firstFor_49 rfl rfl ?_
        replace h := Option.bind_eq_some_iff.mp h; obtain ⟨r8, hr8, h⟩ := h
        refine ev_invSN (M1 := M_X10_at) (as := [vr r7, vi v1]) dX4_firstFor_50 rfl tw_716 cal_X10_at tw_308 (by decide) rfl rfl (Nat.le_of_ble_eq_true rfl) (met_X10_at r7 v1 w _ hr8) ?_
        by_cases hc : r4 + r6 = r8
        · rw [if_pos hc] at h
          refine ev_icmp_ne_f (q := 56) (t0 := 58) dX4_firstFor_53 (by decide) rfl hc ?_
          refine ev_iload_n (q := 57) dX4_firstFor_56 rfl rfl ?_
          cases h
          obtain ⟨hr1, hr2⟩ := hret _ hP
          subst hr1
          subst hr2
          exact ev_iret dX4_firstFor_57 rfl rfl
        · rw [if_neg hc] at h
          refine ev_icmp_ne_t (q := 58) dX4_firstFor_53 (by decide) hc ?_
          exact ev_weak _ (mLe_some (mLe_some (mLe_some (mLe_none mLe_nil)))) (e_X4_firstFor_J58 P o v1 v2 w _ hk  _ h hP)
def f_X4_firstFor (o : Nat) (v1 : Int32) (w : mW) : Option (Int32) := Option.bind (f_X4_firstFor_L2 o v1 w mFuel (0 : Int32)) fun e9 => match e9 with | .inl y11 => some y11 | .inr y10 => some ((-1 : Int32))
set_option maxRecDepth 100000 in
set_option maxHeartbeats 4000000 in
theorem met_X4_firstFor (o : Nat) (v1 : Int32) (w : mW) (res : Int32) (h : f_X4_firstFor o v1 w = some res) : mMet M_X4_firstFor 1 [vr ((some o)), vi v1] w (some (vi res)) w := by
  refine ev_met (n := 2) (by decide) rfl fun X => ?_
  unfold f_X4_firstFor at h
  show mEv X M_X4_firstFor 1 _ _ 0 [some (vr ((some o))), some (vi v1), none, none] [] w
  refine ev_iconst (q := 1) (v := (0 : Int32)) dX4_firstFor_0 rfl (by decide) ?_
  refine ev_istore_n (q := 2) dX4_firstFor_1 rfl (by decide) ?_
  replace h := Option.bind_eq_some_iff.mp h; obtain ⟨e9, he9, h⟩ := h
  refine ev_weak _ (mLe_some (mLe_some (mLe_some (mLe_none mLe_nil)))) (e_X4_firstFor_L2 (fun z => e9 = z) o v1 w (fun y11 hq => ?_) (fun y10 hq => ?_) mFuel (0 : Int32) _ he9 rfl)
  · subst hq
    dsimp only at h
    cases h
    exact ⟨rfl, rfl⟩
  · subst hq
    dsimp only at h
    refine ev_iconst (q := 65) (v := (-1 : Int32)) dX4_firstFor_64 rfl (by decide) ?_
    cases h
    exact ev_iret dX4_firstFor_65 rfl rfl
def f_X4_leastPrice_J56 (kc : Int32 → Int32 → Option (Int32)) (o : Nat) (v1 : Int32) (v2 : Int32) (v3 : Int32) (w : mW) : Option (Int32) := kc v2 (v3 + (1 : Int32))
set_option maxRecDepth 100000 in
set_option maxHeartbeats 4000000 in
theorem e_X4_leastPrice_J56 {X : mXs} {r : Option mV} {w' : mW} (P : (Int32) → Prop) (o : Nat) (v1 : Int32) (v2 : Int32) (v3 : Int32) (w : mW) (kc : Int32 → Int32 → Option (Int32)) (hk : ∀ (u2 : Int32) (u3 : Int32) (e : Int32), kc u2 u3 = some e → P e → mEv X M_X4_leastPrice 1 r w' 5 [some (vr ((some o))), some (vi v1), some (vi u2), some (vi u3)] [] w) (e : Int32) (h : f_X4_leastPrice_J56 kc o v1 v2 v3 w = some e) (hP : P e) : mEv X M_X4_leastPrice 1 r w' 56 [some (vr ((some o))), some (vi v1), some (vi v2), some (vi v3)] [] w := by
  unfold f_X4_leastPrice_J56 at h
  refine ev_iinc (q := 59) (v := v3 + (1 : Int32)) dX4_leastPrice_56 rfl (by decide) rfl (by rfl) ?_
  refine ev_goto (q := 5) dX4_leastPrice_59 (by decide) ?_
  exact ev_weak _ (mLe_some (mLe_some (mLe_some (mLe_some mLe_nil)))) (hk v2 (v3 + (1 : Int32)) _ h hP)
def f_X4_leastPrice_L5 (o : Nat) (v1 : Int32) (w : mW) : Nat → Int32 → Int32 → Option (Int32)
  | 0, _, _ => none
  | n + 1, v2, v3 => if (64 : Int32) ≤ v3 then (some (v2)) else (if v3 &&& v1 = 0 then (f_X4_leastPrice_J56 (f_X4_leastPrice_L5 o v1 w n) o v1 v2 v3 w) else (Option.bind (gR w (some o) 4 2) fun r1 => Option.bind (f_X10_at r1 v3 w) fun r2 => if (1048576 : Int32) ≤ r2 then (f_X4_leastPrice_J56 (f_X4_leastPrice_L5 o v1 w n) o v1 v2 v3 w) else (Option.bind (gR w (some o) 4 2) fun r3 => Option.bind (f_X10_at r3 v3 w) fun r4 => Option.bind (gR w (some o) 4 3) fun r5 => Option.bind (f_X10_at r5 (v1 &&& (v3 ^^^ (-1 : Int32))) w) fun r6 => f_X4_leastPrice_J56 (f_X4_leastPrice_L5 o v1 w n) o v1 (if r4 + r6 < v2 then r4 + r6 else v2) v3 w)))
set_option maxRecDepth 100000 in
set_option maxHeartbeats 4000000 in
theorem e_X4_leastPrice_L5 {X : mXs} {r : Option mV} {w' : mW} (P : (Int32) → Prop) (o : Nat) (v1 : Int32) (w : mW) (hexit : ∀ y, P y → mEv X M_X4_leastPrice 1 r w' 62 [none, none, some (vi y), none] [] w) : ∀ (n : Nat) (v2 : Int32) (v3 : Int32) (e : Int32), f_X4_leastPrice_L5 o v1 w n v2 v3 = some e → P e → mEv X M_X4_leastPrice 1 r w' 5 [some (vr ((some o))), some (vi v1), some (vi v2), some (vi v3)] [] w := by
  intro n
  induction n with
  | zero =>
    intro v2 v3 e h hP
    rw [f_X4_leastPrice_L5] at h
    cases h
  | succ n hk =>
    intro v2 v3 e h hP
    rw [f_X4_leastPrice_L5] at h
    refine ev_iload_n (q := 6) dX4_leastPrice_5 rfl rfl ?_
    refine ev_bipush (q := 8) (v := (64 : Int32)) dX4_leastPrice_6 rfl (by decide) ?_
    by_cases hc : (64 : Int32) ≤ v3
    · rw [if_pos hc] at h
      refine ev_icmp_ge_t (q := 62) dX4_leastPrice_8 (by decide) hc ?_
      cases h
      exact ev_weak _ (mLe_none (mLe_none (mLe_some (mLe_none mLe_nil)))) (hexit _ hP)
    · rw [if_neg hc] at h
      refine ev_icmp_ge_f (q := 11) (t0 := 62) dX4_leastPrice_8 (by decide) rfl hc ?_
      refine ev_iload_n (q := 12) dX4_leastPrice_11 rfl rfl ?_
      refine ev_iload_n (q := 13) dX4_leastPrice_12 rfl rfl ?_
      refine ev_iand (q := 14) dX4_leastPrice_13 rfl ?_
      by_cases hc : v3 &&& v1 = 0
      · rw [if_pos hc] at h
        refine ev_if_eq_t (q := 56) dX4_leastPrice_14 (by decide) hc ?_
        exact ev_weak _ (mLe_some (mLe_some (mLe_some (mLe_some mLe_nil)))) (e_X4_leastPrice_J56 P o v1 v2 v3 w _ hk  _ h hP)
      · rw [if_neg hc] at h
        refine ev_if_eq_f (q := 17) (t0 := 56) dX4_leastPrice_14 (by decide) rfl hc ?_
        refine ev_aload_n (q := 18) dX4_leastPrice_17 rfl rfl ?_
        replace h := Option.bind_eq_some_iff.mp h; obtain ⟨r1, hr1, h⟩ := h
        refine ev_gR dX4_leastPrice_18 fl_X4_18 hr1 rfl ?_
        refine ev_iload_n (q := 22) dX4_leastPrice_21 rfl rfl ?_
        replace h := Option.bind_eq_some_iff.mp h; obtain ⟨r2, hr2, h⟩ := h
        refine ev_invSN (M1 := M_X10_at) (as := [vr r1, vi v3]) dX4_leastPrice_22 rfl tw_716 cal_X10_at tw_308 (by decide) rfl rfl (Nat.le_of_ble_eq_true rfl) (met_X10_at r1 v3 w _ hr2) ?_
        refine ev_ldc (q := 27) (v := (1048576 : Int32)) dX4_leastPrice_25 rfl tw_710 ?_
        by_cases hc : (1048576 : Int32) ≤ r2
        · rw [if_pos hc] at h
          refine ev_icmp_ge_t (q := 56) dX4_leastPrice_27 (by decide) hc ?_
          exact ev_weak _ (mLe_some (mLe_some (mLe_some (mLe_some mLe_nil)))) (e_X4_leastPrice_J56 P o v1 v2 v3 w _ hk  _ h hP)
        · rw [if_neg hc] at h
          refine ev_icmp_ge_f (q := 30) (t0 := 56) dX4_leastPrice_27 (by decide) rfl hc ?_
          refine ev_iload_n (q := 31) dX4_leastPrice_30 rfl rfl ?_
          refine ev_aload_n (q := 32) dX4_leastPrice_31 rfl rfl ?_
          replace h := Option.bind_eq_some_iff.mp h; obtain ⟨r3, hr3, h⟩ := h
          refine ev_gR dX4_leastPrice_32 fl_X4_18 hr3 rfl ?_
          refine ev_iload_n (q := 36) dX4_leastPrice_35 rfl rfl ?_
          replace h := Option.bind_eq_some_iff.mp h; obtain ⟨r4, hr4, h⟩ := h
          refine ev_invSN (M1 := M_X10_at) (as := [vr r3, vi v3]) dX4_leastPrice_36 rfl tw_716 cal_X10_at tw_308 (by decide) rfl rfl (Nat.le_of_ble_eq_true rfl) (met_X10_at r3 v3 w _ hr4) ?_
          refine ev_aload_n (q := 40) dX4_leastPrice_39 rfl rfl ?_
          replace h := Option.bind_eq_some_iff.mp h; obtain ⟨r5, hr5, h⟩ := h
          refine ev_gR dX4_leastPrice_40 fl_X4_21 hr5 rfl ?_
          refine ev_iload_n (q := 44) dX4_leastPrice_43 rfl rfl ?_
          refine ev_iload_n (q := 45) dX4_leastPrice_44 rfl rfl ?_
          refine ev_iconst (q := 46) (v := (-1 : Int32)) dX4_leastPrice_45 rfl (by decide) ?_
          refine ev_ixor (q := 47) dX4_leastPrice_46 rfl ?_
          refine ev_iand (q := 48) dX4_leastPrice_47 rfl ?_
          replace h := Option.bind_eq_some_iff.mp h; obtain ⟨r6, hr6, h⟩ := h
          refine ev_invSN (M1 := M_X10_at) (as := [vr r5, vi (v1 &&& (v3 ^^^ (-1 : Int32)))]) dX4_leastPrice_48 rfl tw_716 cal_X10_at tw_308 (by decide) rfl rfl (Nat.le_of_ble_eq_true rfl) (met_X10_at r5 (v1 &&& (v3 ^^^ (-1 : Int32))) w _ hr6) ?_
          refine ev_iadd (q := 52) dX4_leastPrice_51 rfl ?_
          refine ev_mmin (q := 55) dX4_leastPrice_52 rfl tw_717 tw_367 tw_mathi tw_368 (by decide) (Nat.le_of_ble_eq_true rfl) ?_
          refine ev_istore_n (q := 56) dX4_leastPrice_55 rfl (by decide) ?_
          exact ev_weak _ (mLe_some (mLe_some (mLe_some (mLe_some mLe_nil)))) (e_X4_leastPrice_J56 P o v1 (if r4 + r6 < v2 then r4 + r6 else v2) v3 w _ hk  _ h hP)
def f_X4_leastPrice (o : Nat) (v1 : Int32) (w : mW) : Option (Int32) := Option.bind (f_X4_leastPrice_L5 o v1 w mFuel (1048576 : Int32) (1 : Int32)) fun e7 => some (e7)
set_option maxRecDepth 100000 in
set_option maxHeartbeats 4000000 in
theorem met_X4_leastPrice (o : Nat) (v1 : Int32) (w : mW) (res : Int32) (h : f_X4_leastPrice o v1 w = some res) : mMet M_X4_leastPrice 1 [vr ((some o)), vi v1] w (some (vi res)) w := by
  refine ev_met (n := 2) (by decide) rfl fun X => ?_
  unfold f_X4_leastPrice at h
  show mEv X M_X4_leastPrice 1 _ _ 0 [some (vr ((some o))), some (vi v1), none, none] [] w
  refine ev_ldc (q := 2) (v := (1048576 : Int32)) dX4_leastPrice_0 rfl tw_710 ?_
  refine ev_istore_n (q := 3) dX4_leastPrice_2 rfl (by decide) ?_
  refine ev_iconst (q := 4) (v := (1 : Int32)) dX4_leastPrice_3 rfl (by decide) ?_
  refine ev_istore_n (q := 5) dX4_leastPrice_4 rfl (by decide) ?_
  replace h := Option.bind_eq_some_iff.mp h; obtain ⟨e7, he7, h⟩ := h
  refine ev_weak _ (mLe_some (mLe_some (mLe_some (mLe_some mLe_nil)))) (e_X4_leastPrice_L5 (fun z => e7 = z) o v1 w (fun e7q hq => ?_) mFuel (1048576 : Int32) (1 : Int32) _ he7 rfl)
  subst hq
  refine ev_iload_n (q := 63) dX4_leastPrice_62 rfl rfl ?_
  cases h
  exact ev_iret dX4_leastPrice_63 rfl rfl
def f_X4_offer (o : Nat) (v1 : Int32) (v2 : Int32) (v3 : Int32) (w : mW) : Option (mW) := Option.bind (gR w (some o) 4 0) fun r1 => Option.bind (f_X10_put r1 v1 v2 w) fun w2 => Option.bind (gR w2 (some o) 4 1) fun r3 => Option.bind (f_X10_put r3 v1 (((16 : Int32) * v3) + (1 : Int32)) w2) fun w4 => Option.bind (gR w4 (some o) 4 2) fun r5 => Option.bind (gR w4 (some o) 4 2) fun r6 => Option.bind (f_X10_at r6 v2 w4) fun r7 => Option.bind (f_X10_put r5 v2 (if r7 < ((16 : Int32) * v3) + (1 : Int32) then r7 else ((16 : Int32) * v3) + (1 : Int32)) w4) fun w8 => some (w8)
set_option maxRecDepth 100000 in
set_option maxHeartbeats 4000000 in
theorem met_X4_offer (o : Nat) (v1 : Int32) (v2 : Int32) (v3 : Int32) (w : mW) (res : mW) (h : f_X4_offer o v1 v2 v3 w = some res) : mMet M_X4_offer 1 [vr ((some o)), vi v1, vi v2, vi v3] w none res := by
  refine ev_met (n := 1) (by decide) rfl fun X => ?_
  unfold f_X4_offer at h
  show mEv X M_X4_offer 1 _ _ 0 [some (vr ((some o))), some (vi v1), some (vi v2), some (vi v3), none] [] w
  refine ev_bipush (q := 2) (v := (16 : Int32)) dX4_offer_0 rfl (by decide) ?_
  refine ev_iload_n (q := 3) dX4_offer_2 rfl rfl ?_
  refine ev_imul (q := 4) dX4_offer_3 rfl ?_
  refine ev_iconst (q := 5) (v := (1 : Int32)) dX4_offer_4 rfl (by decide) ?_
  refine ev_iadd (q := 6) dX4_offer_5 rfl ?_
  refine ev_istore (q := 8) dX4_offer_6 rfl (by decide) ?_
  refine ev_aload_n (q := 9) dX4_offer_8 rfl rfl ?_
  replace h := Option.bind_eq_some_iff.mp h; obtain ⟨r1, hr1, h⟩ := h
  refine ev_gR dX4_offer_9 fl_X4_9 hr1 rfl ?_
  refine ev_iload_n (q := 13) dX4_offer_12 rfl rfl ?_
  refine ev_iload_n (q := 14) dX4_offer_13 rfl rfl ?_
  replace h := Option.bind_eq_some_iff.mp h; obtain ⟨w2, hw2, h⟩ := h
  refine ev_invSN (M1 := M_X10_put) (as := [vr r1, vi v1, vi v2]) dX4_offer_14 rfl tw_711 cal_X10_put tw_293 (by decide) rfl rfl (Nat.le_of_ble_eq_true rfl) (met_X10_put r1 v1 v2 w _ hw2) ?_
  refine ev_aload_n (q := 18) dX4_offer_17 rfl rfl ?_
  replace h := Option.bind_eq_some_iff.mp h; obtain ⟨r3, hr3, h⟩ := h
  refine ev_gR dX4_offer_18 fl_X4_15 hr3 rfl ?_
  refine ev_iload_n (q := 22) dX4_offer_21 rfl rfl ?_
  refine ev_iload (q := 24) dX4_offer_22 rfl rfl ?_
  replace h := Option.bind_eq_some_iff.mp h; obtain ⟨w4, hw4, h⟩ := h
  refine ev_invSN (M1 := M_X10_put) (as := [vr r3, vi v1, vi (((16 : Int32) * v3) + (1 : Int32))]) dX4_offer_24 rfl tw_711 cal_X10_put tw_293 (by decide) rfl rfl (Nat.le_of_ble_eq_true rfl) (met_X10_put r3 v1 (((16 : Int32) * v3) + (1 : Int32)) w2 _ hw4) ?_
  refine ev_aload_n (q := 28) dX4_offer_27 rfl rfl ?_
  replace h := Option.bind_eq_some_iff.mp h; obtain ⟨r5, hr5, h⟩ := h
  refine ev_gR dX4_offer_28 fl_X4_18 hr5 rfl ?_
  refine ev_iload_n (q := 32) dX4_offer_31 rfl rfl ?_
  refine ev_iload (q := 34) dX4_offer_32 rfl rfl ?_
  refine ev_aload_n (q := 35) dX4_offer_34 rfl rfl ?_
  replace h := Option.bind_eq_some_iff.mp h; obtain ⟨r6, hr6, h⟩ := h
  refine ev_gR dX4_offer_35 fl_X4_18 hr6 rfl ?_
  refine ev_iload_n (q := 39) dX4_offer_38 rfl rfl ?_
  replace h := Option.bind_eq_some_iff.mp h; obtain ⟨r7, hr7, h⟩ := h
  refine ev_invSN (M1 := M_X10_at) (as := [vr r6, vi v2]) dX4_offer_39 rfl tw_716 cal_X10_at tw_308 (by decide) rfl rfl (Nat.le_of_ble_eq_true rfl) (met_X10_at r6 v2 w4 _ hr7) ?_
  refine ev_mmin (q := 45) dX4_offer_42 rfl tw_717 tw_367 tw_mathi tw_368 (by decide) (Nat.le_of_ble_eq_true rfl) ?_
  replace h := Option.bind_eq_some_iff.mp h; obtain ⟨w8, hw8, h⟩ := h
  refine ev_invSN (M1 := M_X10_put) (as := [vr r5, vi v2, vi ((if r7 < ((16 : Int32) * v3) + (1 : Int32) then r7 else ((16 : Int32) * v3) + (1 : Int32)))]) dX4_offer_45 rfl tw_711 cal_X10_put tw_293 (by decide) rfl rfl (Nat.le_of_ble_eq_true rfl) (met_X10_put r5 v2 (if r7 < ((16 : Int32) * v3) + (1 : Int32) then r7 else ((16 : Int32) * v3) + (1 : Int32)) w4 _ hw8) ?_
  cases h
  exact ev_vret dX4_offer_48 rfl
def f_X4_tell_J62 (s0 : Int32) (w : mW) : Option (Int32) := some (s0)
set_option maxRecDepth 100000 in
set_option maxHeartbeats 4000000 in
theorem e_X4_tell_J62 {X : mXs} (s0 : Int32) (w : mW) (res : Int32) (h : f_X4_tell_J62 s0 w = some res) : mEv X M_X4_tell 1 (some (vi res)) w 62 [none, none, none] [vi s0] w := by
  unfold f_X4_tell_J62 at h
  cases h
  exact ev_iret dX4_tell_62 rfl rfl
def f_X4_tell_J61 (w : mW) : Option (Int32) := f_X4_tell_J62 (-1 : Int32) w
set_option maxRecDepth 100000 in
set_option maxHeartbeats 4000000 in
theorem e_X4_tell_J61 {X : mXs} (w : mW) (res : Int32) (h : f_X4_tell_J61 w = some res) : mEv X M_X4_tell 1 (some (vi res)) w 61 [none, none, none] [] w := by
  unfold f_X4_tell_J61 at h
  refine ev_iconst (q := 62) (v := (-1 : Int32)) dX4_tell_61 rfl (by decide) ?_
  exact ev_weak _ (mLe_none (mLe_none (mLe_none mLe_nil))) (e_X4_tell_J62 (-1 : Int32) w _ h)
def f_X4_tell (o : Nat) (v1 : Int32) (w : mW) : Option (Int32) := Option.bind (gI w (some o) 4 6) fun r1 => if r1 < (1048576 : Int32) then (if v1 = 0 then (Option.bind (gI w (some o) 4 6) fun r6 => some (r6 / (16 : Int32))) else (if v1 = (1 : Int32) then (Option.bind (gI w (some o) 4 5) fun r5 => some (r5)) else (if v1 - (10 : Int32) < 0 then (f_X4_tell_J61 w) else (Option.bind (gI w (some o) 4 5) fun r2 => if r2 ≤ v1 - (10 : Int32) then (f_X4_tell_J61 w) else (Option.bind (gR w (some o) 4 4) fun r3 => Option.bind (f_X10_at r3 (v1 - (10 : Int32)) w) fun r4 => f_X4_tell_J62 r4 w))))) else (some ((-1 : Int32)))
set_option maxRecDepth 100000 in
set_option maxHeartbeats 4000000 in
theorem met_X4_tell (o : Nat) (v1 : Int32) (w : mW) (res : Int32) (h : f_X4_tell o v1 w = some res) : mMet M_X4_tell 1 [vr ((some o)), vi v1] w (some (vi res)) w := by
  refine ev_met (n := 1) (by decide) rfl fun X => ?_
  unfold f_X4_tell at h
  show mEv X M_X4_tell 1 _ _ 0 [some (vr ((some o))), some (vi v1), none] [] w
  refine ev_aload_n (q := 1) dX4_tell_0 rfl rfl ?_
  replace h := Option.bind_eq_some_iff.mp h; obtain ⟨r1, hr1, h⟩ := h
  refine ev_gI dX4_tell_1 fl_X4_50 hr1 rfl ?_
  refine ev_ldc (q := 6) (v := (1048576 : Int32)) dX4_tell_4 rfl tw_710 ?_
  by_cases hc : r1 < (1048576 : Int32)
  · rw [if_pos hc] at h
    refine ev_icmp_lt_t (q := 11) dX4_tell_6 (by decide) hc ?_
    refine ev_iload_n (q := 12) dX4_tell_11 rfl rfl ?_
    by_cases hc : v1 = 0
    · rw [if_pos hc] at h
      refine ev_if_ne_f (q := 15) (t0 := 23) dX4_tell_12 (by decide) rfl hc ?_
      refine ev_aload_n (q := 16) dX4_tell_15 rfl rfl ?_
      replace h := Option.bind_eq_some_iff.mp h; obtain ⟨r6, hr6, h⟩ := h
      refine ev_gI dX4_tell_16 fl_X4_50 hr6 rfl ?_
      refine ev_bipush (q := 21) (v := (16 : Int32)) dX4_tell_19 rfl (by decide) ?_
      refine ev_idiv (q := 22) dX4_tell_21 rfl (by decide) ?_
      cases h
      exact ev_iret dX4_tell_22 rfl rfl
    · rw [if_neg hc] at h
      refine ev_if_ne_t (q := 23) dX4_tell_12 (by decide) hc ?_
      refine ev_iload_n (q := 24) dX4_tell_23 rfl rfl ?_
      refine ev_iconst (q := 25) (v := (1 : Int32)) dX4_tell_24 rfl (by decide) ?_
      by_cases hc : v1 = (1 : Int32)
      · rw [if_pos hc] at h
        refine ev_icmp_ne_f (q := 28) (t0 := 33) dX4_tell_25 (by decide) rfl hc ?_
        refine ev_aload_n (q := 29) dX4_tell_28 rfl rfl ?_
        replace h := Option.bind_eq_some_iff.mp h; obtain ⟨r5, hr5, h⟩ := h
        refine ev_gI dX4_tell_29 fl_X4_54 hr5 rfl ?_
        cases h
        exact ev_iret dX4_tell_32 rfl rfl
      · rw [if_neg hc] at h
        refine ev_icmp_ne_t (q := 33) dX4_tell_25 (by decide) hc ?_
        refine ev_iload_n (q := 34) dX4_tell_33 rfl rfl ?_
        refine ev_bipush (q := 36) (v := (10 : Int32)) dX4_tell_34 rfl (by decide) ?_
        refine ev_isub (q := 37) dX4_tell_36 rfl ?_
        refine ev_istore_n (q := 38) dX4_tell_37 rfl (by decide) ?_
        refine ev_iload_n (q := 39) dX4_tell_38 rfl rfl ?_
        by_cases hc : v1 - (10 : Int32) < 0
        · rw [if_pos hc] at h
          refine ev_if_lt_t (q := 61) dX4_tell_39 (by decide) hc ?_
          exact ev_weak _ (mLe_none (mLe_none (mLe_none mLe_nil))) (e_X4_tell_J61 w _ h)
        · rw [if_neg hc] at h
          refine ev_if_lt_f (q := 42) (t0 := 61) dX4_tell_39 (by decide) rfl hc ?_
          refine ev_iload_n (q := 43) dX4_tell_42 rfl rfl ?_
          refine ev_aload_n (q := 44) dX4_tell_43 rfl rfl ?_
          replace h := Option.bind_eq_some_iff.mp h; obtain ⟨r2, hr2, h⟩ := h
          refine ev_gI dX4_tell_44 fl_X4_54 hr2 rfl ?_
          by_cases hc : r2 ≤ v1 - (10 : Int32)
          · rw [if_pos hc] at h
            refine ev_icmp_ge_t (q := 61) dX4_tell_47 (by decide) hc ?_
            exact ev_weak _ (mLe_none (mLe_none (mLe_none mLe_nil))) (e_X4_tell_J61 w _ h)
          · rw [if_neg hc] at h
            refine ev_icmp_ge_f (q := 50) (t0 := 61) dX4_tell_47 (by decide) rfl hc ?_
            refine ev_aload_n (q := 51) dX4_tell_50 rfl rfl ?_
            replace h := Option.bind_eq_some_iff.mp h; obtain ⟨r3, hr3, h⟩ := h
            refine ev_gR dX4_tell_51 fl_X4_24 hr3 rfl ?_
            refine ev_iload_n (q := 55) dX4_tell_54 rfl rfl ?_
            replace h := Option.bind_eq_some_iff.mp h; obtain ⟨r4, hr4, h⟩ := h
            refine ev_invSN (M1 := M_X10_at) (as := [vr r3, vi (v1 - (10 : Int32))]) dX4_tell_55 rfl tw_716 cal_X10_at tw_308 (by decide) rfl rfl (Nat.le_of_ble_eq_true rfl) (met_X10_at r3 (v1 - (10 : Int32)) w _ hr4) ?_
            refine ev_goto (q := 62) dX4_tell_58 (by decide) ?_
            exact ev_weak _ (mLe_none (mLe_none (mLe_none mLe_nil))) (e_X4_tell_J62 r4 w _ h)
  · rw [if_neg hc] at h
    refine ev_icmp_lt_f (q := 9) (t0 := 11) dX4_tell_6 (by decide) rfl hc ?_
    refine ev_iconst (q := 10) (v := (-1 : Int32)) dX4_tell_9 rfl (by decide) ?_
    cases h
    exact ev_iret dX4_tell_10 rfl rfl
def f_X5_init (o : Nat) (w : mW) : Option (mW) := Option.bind (some (w ++ [.inr (.inl (6, fun _ => 0))])) fun w1 => Option.bind (pR w1 (some o) 5 0 (some w.length)) fun w2 => Option.bind (some (w2 ++ [.inr (.inl (4, fun _ => 0))])) fun w3 => Option.bind (pR w3 (some o) 5 1 (some w2.length)) fun w4 => Option.bind (some (w4 ++ [.inr (.inl (4, fun _ => 0))])) fun w5 => Option.bind (pR w5 (some o) 5 2 (some w4.length)) fun w6 => Option.bind (some (w6 ++ [.inr (.inl (4, fun _ => 0))])) fun w7 => Option.bind (pR w7 (some o) 5 3 (some w6.length)) fun w8 => some (w8)
set_option maxRecDepth 100000 in
set_option maxHeartbeats 4000000 in
theorem met_X5_init (o : Nat) (w : mW) (res : mW) (h : f_X5_init o w = some res) : mMet M_X5_init 1 [vr ((some o))] w none res := by
  refine ev_met (n := 0) (by decide) rfl fun X => ?_
  unfold f_X5_init at h
  show mEv X M_X5_init 1 _ _ 0 [some (vr ((some o)))] [] w
  refine ev_aload_n (q := 1) dX5_init_0 rfl rfl ?_
  refine ev_obj (q := 4) dX5_init_1 rfl tw_112 tw_obji tw_objc (by decide) (Nat.le_of_ble_eq_true rfl) ?_
  refine ev_aload_n (q := 5) dX5_init_4 rfl rfl ?_
  refine ev_bipush (q := 7) (v := (6 : Int32)) dX5_init_5 rfl (by decide) ?_
  replace h := Option.bind_eq_some_iff.mp h; obtain ⟨w1, hw1, h⟩ := h
  cases hw1
  refine ev_newi (N := 6) dX5_init_7 rfl tw_106 (by decide) (by decide) (by decide) ?_
  replace h := Option.bind_eq_some_iff.mp h; obtain ⟨w2, hw2, h⟩ := h
  refine ev_pRF dX5_init_9 rfl mFit_a fp_X5_9 hw2 rfl ?_
  refine ev_aload_n (q := 13) dX5_init_12 rfl rfl ?_
  refine ev_iconst (q := 14) (v := (4 : Int32)) dX5_init_13 rfl (by decide) ?_
  replace h := Option.bind_eq_some_iff.mp h; obtain ⟨w3, hw3, h⟩ := h
  cases hw3
  refine ev_newi (N := 4) dX5_init_14 rfl tw_106 (by decide) (by decide) (by decide) ?_
  replace h := Option.bind_eq_some_iff.mp h; obtain ⟨w4, hw4, h⟩ := h
  refine ev_pRF dX5_init_16 rfl mFit_a fp_X5_15 hw4 rfl ?_
  refine ev_aload_n (q := 20) dX5_init_19 rfl rfl ?_
  refine ev_iconst (q := 21) (v := (4 : Int32)) dX5_init_20 rfl (by decide) ?_
  replace h := Option.bind_eq_some_iff.mp h; obtain ⟨w5, hw5, h⟩ := h
  cases hw5
  refine ev_newi (N := 4) dX5_init_21 rfl tw_106 (by decide) (by decide) (by decide) ?_
  replace h := Option.bind_eq_some_iff.mp h; obtain ⟨w6, hw6, h⟩ := h
  refine ev_pRF dX5_init_23 rfl mFit_a fp_X5_18 hw6 rfl ?_
  refine ev_aload_n (q := 27) dX5_init_26 rfl rfl ?_
  refine ev_iconst (q := 28) (v := (4 : Int32)) dX5_init_27 rfl (by decide) ?_
  replace h := Option.bind_eq_some_iff.mp h; obtain ⟨w7, hw7, h⟩ := h
  cases hw7
  refine ev_newi (N := 4) dX5_init_28 rfl tw_106 (by decide) (by decide) (by decide) ?_
  replace h := Option.bind_eq_some_iff.mp h; obtain ⟨w8, hw8, h⟩ := h
  refine ev_pRF dX5_init_30 rfl mFit_a fp_X5_21 hw8 rfl ?_
  cases h
  exact ev_vret dX5_init_33 rfl
def f_X5_takesColumn_J76 (s0 : Int32) (w : mW) : Option (Int32 × mW) := if s0 = 0 ∨ s0 = 1 then some ((s0, w)) else none
set_option maxRecDepth 100000 in
set_option maxHeartbeats 4000000 in
theorem e_X5_takesColumn_J76 {X : mXs} (s0 : Int32) (w : mW) (res : Int32 × mW) (h : f_X5_takesColumn_J76 s0 w = some res) : mEv X M_X5_takesColumn 1 (some (vi res.1)) res.2 76 [none, none, none, none] [vi s0] w := by
  unfold f_X5_takesColumn_J76 at h
  by_cases hz : s0 = 0 ∨ s0 = 1
  · rw [if_pos hz] at h
    cases h
    exact ev_zret dX5_takesColumn_76 rfl hz
  · rw [if_neg hz] at h
    cases h
def f_X5_takesColumn_L11 (o : Nat) (v2 : Int32) (w : mW) : Nat → Int32 → Option ((Int32 × mW) ⊕ (Unit))
  | 0, _ => none
  | n + 1, v3 => Option.bind (gI w (some o) 5 4) fun r1 => if r1 ≤ v3 then (some (.inr ())) else (Option.bind (gR w (some o) 5 0) fun r2 => Option.bind (f_X10_at r2 v3 w) fun r3 => if r3 = v2 then (some (.inl ((0 : Int32), w))) else ((f_X5_takesColumn_L11 o v2 w n) (v3 + (1 : Int32))))
set_option maxRecDepth 100000 in
set_option maxHeartbeats 4000000 in
theorem e_X5_takesColumn_L11 {X : mXs} {r : Option mV} {w' : mW} (P : ((Int32 × mW) ⊕ (Unit)) → Prop) (o : Nat) (v2 : Int32) (w : mW) (hret : ∀ y, P (.inl y) → r = (some (vi y.1)) ∧ w' = y.2) (hexit : ∀ y, P (.inr y) → mEv X M_X5_takesColumn 1 r w' 39 [some (vr ((some o))), none, some (vi v2), none] [] w) : ∀ (n : Nat) (v3 : Int32) (e : (Int32 × mW) ⊕ (Unit)), f_X5_takesColumn_L11 o v2 w n v3 = some e → P e → mEv X M_X5_takesColumn 1 r w' 11 [some (vr ((some o))), none, some (vi v2), some (vi v3)] [] w := by
  intro n
  induction n with
  | zero =>
    intro v3 e h hP
    rw [f_X5_takesColumn_L11] at h
    cases h
  | succ n hk =>
    intro v3 e h hP
    rw [f_X5_takesColumn_L11] at h
    refine ev_iload_n (q := 12) dX5_takesColumn_11 rfl rfl ?_
    refine ev_aload_n (q := 13) dX5_takesColumn_12 rfl rfl ?_
    replace h := Option.bind_eq_some_iff.mp h; obtain ⟨r1, hr1, h⟩ := h
    refine ev_gI dX5_takesColumn_13 fl_X5_24 hr1 rfl ?_
    by_cases hc : r1 ≤ v3
    · rw [if_pos hc] at h
      refine ev_icmp_ge_t (q := 39) dX5_takesColumn_16 (by decide) hc ?_
      cases h
      exact ev_weak _ (mLe_some (mLe_none (mLe_some (mLe_none mLe_nil)))) (hexit _ hP)
    · rw [if_neg hc] at h
      refine ev_icmp_ge_f (q := 19) (t0 := 39) dX5_takesColumn_16 (by decide) rfl hc ?_
      refine ev_aload_n (q := 20) dX5_takesColumn_19 rfl rfl ?_
      replace h := Option.bind_eq_some_iff.mp h; obtain ⟨r2, hr2, h⟩ := h
      refine ev_gR dX5_takesColumn_20 fl_X5_9 hr2 rfl ?_
      refine ev_iload_n (q := 24) dX5_takesColumn_23 rfl rfl ?_
      replace h := Option.bind_eq_some_iff.mp h; obtain ⟨r3, hr3, h⟩ := h
      refine ev_invSN (M1 := M_X10_at) (as := [vr r2, vi v3]) dX5_takesColumn_24 rfl tw_307 cal_X10_at tw_308 (by decide) rfl rfl (Nat.le_of_ble_eq_true rfl) (met_X10_at r2 v3 w _ hr3) ?_
      refine ev_iload_n (q := 28) dX5_takesColumn_27 rfl rfl ?_
      by_cases hc : r3 = v2
      · rw [if_pos hc] at h
        refine ev_icmp_ne_f (q := 31) (t0 := 33) dX5_takesColumn_28 (by decide) rfl hc ?_
        refine ev_iconst (q := 32) (v := (0 : Int32)) dX5_takesColumn_31 rfl (by decide) ?_
        cases h
        obtain ⟨hr1, hr2⟩ := hret _ hP
        subst hr1
        subst hr2
        exact ev_zret dX5_takesColumn_32 rfl (Or.inl rfl)
      · rw [if_neg hc] at h
        refine ev_icmp_ne_t (q := 33) dX5_takesColumn_28 (by decide) hc ?_
        refine ev_iinc (q := 36) (v := v3 + (1 : Int32)) dX5_takesColumn_33 rfl (by decide) rfl (by rfl) ?_
        refine ev_goto (q := 11) dX5_takesColumn_36 (by decide) ?_
        exact ev_weak _ (mLe_some (mLe_none (mLe_some (mLe_some mLe_nil)))) (hk (v3 + (1 : Int32)) _ h hP)
def f_X5_takesColumn (o : Nat) (v1 : Int32) (w : mW) : Option (Int32 × mW) := Option.bind (gI w (some o) 5 6) fun r4 => Option.bind (f_X10_cellAt r4 v1 w) fun r5 => Option.bind (f_X5_takesColumn_L11 o r5 w mFuel (0 : Int32)) fun e6 => match e6 with | .inl y14 => some y14 | .inr y7 => Option.bind (gR w (some o) 5 0) fun r8 => Option.bind (gI w (some o) 5 4) fun r9 => Option.bind (f_X10_put r8 r9 r5 w) fun w10 => Option.bind (gI w10 (some o) 5 4) fun r11 => Option.bind (pI w10 (some o) 5 4 (r11 + (1 : Int32))) fun w12 => Option.bind (pI w12 (some o) 5 7 (2 : Int32)) fun w13 => if r5 = (-1 : Int32) then (f_X5_takesColumn_J76 (0 : Int32) w13) else (f_X5_takesColumn_J76 (1 : Int32) w13)
set_option maxRecDepth 100000 in
set_option maxHeartbeats 4000000 in
theorem met_X5_takesColumn (o : Nat) (v1 : Int32) (w : mW) (res : Int32 × mW) (h : f_X5_takesColumn o v1 w = some res) : mMet M_X5_takesColumn 1 [vr ((some o)), vi v1] w (some (vi res.1)) res.2 := by
  refine ev_met (n := 2) (by decide) rfl fun X => ?_
  unfold f_X5_takesColumn at h
  show mEv X M_X5_takesColumn 1 _ _ 0 [some (vr ((some o))), some (vi v1), none, none] [] w
  refine ev_aload_n (q := 1) dX5_takesColumn_0 rfl rfl ?_
  replace h := Option.bind_eq_some_iff.mp h; obtain ⟨r4, hr4, h⟩ := h
  refine ev_gI dX5_takesColumn_1 fl_X5_71 hr4 rfl ?_
  refine ev_iload_n (q := 5) dX5_takesColumn_4 rfl rfl ?_
  replace h := Option.bind_eq_some_iff.mp h; obtain ⟨r5, hr5, h⟩ := h
  refine ev_invSN (M1 := M_X10_cellAt) (as := [vi r4, vi v1]) dX5_takesColumn_5 rfl tw_322 cal_X10_cellAt tw_323 (by decide) rfl rfl (Nat.le_of_ble_eq_true rfl) (met_X10_cellAt r4 v1 w _ hr5) ?_
  refine ev_istore_n (q := 9) dX5_takesColumn_8 rfl (by decide) ?_
  refine ev_iconst (q := 10) (v := (0 : Int32)) dX5_takesColumn_9 rfl (by decide) ?_
  refine ev_istore_n (q := 11) dX5_takesColumn_10 rfl (by decide) ?_
  replace h := Option.bind_eq_some_iff.mp h; obtain ⟨e6, he6, h⟩ := h
  refine ev_weak _ (mLe_some (mLe_none (mLe_some (mLe_some mLe_nil)))) (e_X5_takesColumn_L11 (fun z => e6 = z) o r5 w (fun y14 hq => ?_) (fun y7 hq => ?_) mFuel (0 : Int32) _ he6 rfl)
  · subst hq
    dsimp only at h
    cases h
    exact ⟨rfl, rfl⟩
  · subst hq
    dsimp only at h
    refine ev_aload_n (q := 40) dX5_takesColumn_39 rfl rfl ?_
    replace h := Option.bind_eq_some_iff.mp h; obtain ⟨r8, hr8, h⟩ := h
    refine ev_gR dX5_takesColumn_40 fl_X5_9 hr8 rfl ?_
    refine ev_aload_n (q := 44) dX5_takesColumn_43 rfl rfl ?_
    replace h := Option.bind_eq_some_iff.mp h; obtain ⟨r9, hr9, h⟩ := h
    refine ev_gI dX5_takesColumn_44 fl_X5_24 hr9 rfl ?_
    refine ev_iload_n (q := 48) dX5_takesColumn_47 rfl rfl ?_
    replace h := Option.bind_eq_some_iff.mp h; obtain ⟨w10, hw10, h⟩ := h
    refine ev_invSN (M1 := M_X10_put) (as := [vr r8, vi r9, vi r5]) dX5_takesColumn_48 rfl tw_325 cal_X10_put tw_293 (by decide) rfl rfl (Nat.le_of_ble_eq_true rfl) (met_X10_put r8 r9 r5 w _ hw10) ?_
    refine ev_aload_n (q := 52) dX5_takesColumn_51 rfl rfl ?_
    refine ev_dup (q := 53) dX5_takesColumn_52 rfl rfl ?_
    replace h := Option.bind_eq_some_iff.mp h; obtain ⟨r11, hr11, h⟩ := h
    refine ev_gI dX5_takesColumn_53 fl_X5_24 hr11 rfl ?_
    refine ev_iconst (q := 57) (v := (1 : Int32)) dX5_takesColumn_56 rfl (by decide) ?_
    refine ev_iadd (q := 58) dX5_takesColumn_57 rfl ?_
    replace h := Option.bind_eq_some_iff.mp h; obtain ⟨w12, hw12, h⟩ := h
    refine ev_pI dX5_takesColumn_58 fp_X5_24 hw12 rfl ?_
    refine ev_aload_n (q := 62) dX5_takesColumn_61 rfl rfl ?_
    refine ev_iconst (q := 63) (v := (2 : Int32)) dX5_takesColumn_62 rfl (by decide) ?_
    replace h := Option.bind_eq_some_iff.mp h; obtain ⟨w13, hw13, h⟩ := h
    refine ev_pI dX5_takesColumn_63 fp_X5_31 hw13 rfl ?_
    refine ev_iload_n (q := 67) dX5_takesColumn_66 rfl rfl ?_
    refine ev_iconst (q := 68) (v := (-1 : Int32)) dX5_takesColumn_67 rfl (by decide) ?_
    by_cases hc : r5 = (-1 : Int32)
    · rw [if_pos hc] at h
      refine ev_icmp_eq_t (q := 75) dX5_takesColumn_68 (by decide) hc ?_
      refine ev_iconst (q := 76) (v := (0 : Int32)) dX5_takesColumn_75 rfl (by decide) ?_
      exact ev_weak _ (mLe_none (mLe_none (mLe_none (mLe_none mLe_nil)))) (e_X5_takesColumn_J76 (0 : Int32) w13 _ h)
    · rw [if_neg hc] at h
      refine ev_icmp_eq_f (q := 71) (t0 := 75) dX5_takesColumn_68 (by decide) rfl hc ?_
      refine ev_iconst (q := 72) (v := (1 : Int32)) dX5_takesColumn_71 rfl (by decide) ?_
      refine ev_goto (q := 76) dX5_takesColumn_72 (by decide) ?_
      exact ev_weak _ (mLe_none (mLe_none (mLe_none (mLe_none mLe_nil)))) (e_X5_takesColumn_J76 (1 : Int32) w13 _ h)
def f_X5_takesEast (o : Nat) (v1 : Int32) (w : mW) : Option (Int32 × mW) := Option.bind (gR w (some o) 5 3) fun r1 => Option.bind (gI w (some o) 5 5) fun r2 => Option.bind (f_X10_put r1 r2 v1 w) fun w3 => Option.bind (gI w3 (some o) 5 5) fun r4 => Option.bind (pI w3 (some o) 5 5 (r4 + (1 : Int32))) fun w5 => Option.bind (pI w5 (some o) 5 7 (6 : Int32)) fun w6 => Option.bind (f_X10_isTurn v1 w6) fun r7 => if r7 = 0 ∨ r7 = 1 then some ((r7, w6)) else none
set_option maxRecDepth 100000 in
set_option maxHeartbeats 4000000 in
theorem met_X5_takesEast (o : Nat) (v1 : Int32) (w : mW) (res : Int32 × mW) (h : f_X5_takesEast o v1 w = some res) : mMet M_X5_takesEast 1 [vr ((some o)), vi v1] w (some (vi res.1)) res.2 := by
  refine ev_met (n := 0) (by decide) rfl fun X => ?_
  unfold f_X5_takesEast at h
  show mEv X M_X5_takesEast 1 _ _ 0 [some (vr ((some o))), some (vi v1)] [] w
  refine ev_aload_n (q := 1) dX5_takesEast_0 rfl rfl ?_
  replace h := Option.bind_eq_some_iff.mp h; obtain ⟨r1, hr1, h⟩ := h
  refine ev_gR dX5_takesEast_1 fl_X5_21 hr1 rfl ?_
  refine ev_aload_n (q := 5) dX5_takesEast_4 rfl rfl ?_
  replace h := Option.bind_eq_some_iff.mp h; obtain ⟨r2, hr2, h⟩ := h
  refine ev_gI dX5_takesEast_5 fl_X5_28 hr2 rfl ?_
  refine ev_iload_n (q := 9) dX5_takesEast_8 rfl rfl ?_
  replace h := Option.bind_eq_some_iff.mp h; obtain ⟨w3, hw3, h⟩ := h
  refine ev_invSN (M1 := M_X10_put) (as := [vr r1, vi r2, vi v1]) dX5_takesEast_9 rfl tw_325 cal_X10_put tw_293 (by decide) rfl rfl (Nat.le_of_ble_eq_true rfl) (met_X10_put r1 r2 v1 w _ hw3) ?_
  refine ev_aload_n (q := 13) dX5_takesEast_12 rfl rfl ?_
  refine ev_dup (q := 14) dX5_takesEast_13 rfl rfl ?_
  replace h := Option.bind_eq_some_iff.mp h; obtain ⟨r4, hr4, h⟩ := h
  refine ev_gI dX5_takesEast_14 fl_X5_28 hr4 rfl ?_
  refine ev_iconst (q := 18) (v := (1 : Int32)) dX5_takesEast_17 rfl (by decide) ?_
  refine ev_iadd (q := 19) dX5_takesEast_18 rfl ?_
  replace h := Option.bind_eq_some_iff.mp h; obtain ⟨w5, hw5, h⟩ := h
  refine ev_pI dX5_takesEast_19 fp_X5_28 hw5 rfl ?_
  refine ev_aload_n (q := 23) dX5_takesEast_22 rfl rfl ?_
  refine ev_bipush (q := 25) (v := (6 : Int32)) dX5_takesEast_23 rfl (by decide) ?_
  replace h := Option.bind_eq_some_iff.mp h; obtain ⟨w6, hw6, h⟩ := h
  refine ev_pI dX5_takesEast_25 fp_X5_31 hw6 rfl ?_
  refine ev_iload_n (q := 29) dX5_takesEast_28 rfl rfl ?_
  replace h := Option.bind_eq_some_iff.mp h; obtain ⟨r7, hr7, h⟩ := h
  refine ev_invSN (M1 := M_X10_isTurn) (as := [vi v1]) dX5_takesEast_29 rfl tw_425 cal_X10_isTurn tw_426 (by decide) rfl rfl (Nat.le_of_ble_eq_true rfl) (met_X10_isTurn v1 w6 _ hr7) ?_
  by_cases hz : r7 = 0 ∨ r7 = 1
  · rw [if_pos hz] at h
    cases h
    exact ev_zret dX5_takesEast_32 rfl hz
  · rw [if_neg hz] at h
    cases h
def f_X5_takesSouth (o : Nat) (v1 : Int32) (w : mW) : Option (Int32 × mW) := Option.bind (gR w (some o) 5 2) fun r1 => Option.bind (gI w (some o) 5 5) fun r2 => Option.bind (f_X10_put r1 r2 v1 w) fun w3 => Option.bind (pI w3 (some o) 5 7 (5 : Int32)) fun w4 => Option.bind (f_X10_isTurn v1 w4) fun r5 => if r5 = 0 ∨ r5 = 1 then some ((r5, w4)) else none
set_option maxRecDepth 100000 in
set_option maxHeartbeats 4000000 in
theorem met_X5_takesSouth (o : Nat) (v1 : Int32) (w : mW) (res : Int32 × mW) (h : f_X5_takesSouth o v1 w = some res) : mMet M_X5_takesSouth 1 [vr ((some o)), vi v1] w (some (vi res.1)) res.2 := by
  refine ev_met (n := 0) (by decide) rfl fun X => ?_
  unfold f_X5_takesSouth at h
  show mEv X M_X5_takesSouth 1 _ _ 0 [some (vr ((some o))), some (vi v1)] [] w
  refine ev_aload_n (q := 1) dX5_takesSouth_0 rfl rfl ?_
  replace h := Option.bind_eq_some_iff.mp h; obtain ⟨r1, hr1, h⟩ := h
  refine ev_gR dX5_takesSouth_1 fl_X5_18 hr1 rfl ?_
  refine ev_aload_n (q := 5) dX5_takesSouth_4 rfl rfl ?_
  replace h := Option.bind_eq_some_iff.mp h; obtain ⟨r2, hr2, h⟩ := h
  refine ev_gI dX5_takesSouth_5 fl_X5_28 hr2 rfl ?_
  refine ev_iload_n (q := 9) dX5_takesSouth_8 rfl rfl ?_
  replace h := Option.bind_eq_some_iff.mp h; obtain ⟨w3, hw3, h⟩ := h
  refine ev_invSN (M1 := M_X10_put) (as := [vr r1, vi r2, vi v1]) dX5_takesSouth_9 rfl tw_325 cal_X10_put tw_293 (by decide) rfl rfl (Nat.le_of_ble_eq_true rfl) (met_X10_put r1 r2 v1 w _ hw3) ?_
  refine ev_aload_n (q := 13) dX5_takesSouth_12 rfl rfl ?_
  refine ev_iconst (q := 14) (v := (5 : Int32)) dX5_takesSouth_13 rfl (by decide) ?_
  replace h := Option.bind_eq_some_iff.mp h; obtain ⟨w4, hw4, h⟩ := h
  refine ev_pI dX5_takesSouth_14 fp_X5_31 hw4 rfl ?_
  refine ev_iload_n (q := 18) dX5_takesSouth_17 rfl rfl ?_
  replace h := Option.bind_eq_some_iff.mp h; obtain ⟨r5, hr5, h⟩ := h
  refine ev_invSN (M1 := M_X10_isTurn) (as := [vi v1]) dX5_takesSouth_18 rfl tw_425 cal_X10_isTurn tw_426 (by decide) rfl rfl (Nat.le_of_ble_eq_true rfl) (met_X10_isTurn v1 w4 _ hr5) ?_
  by_cases hz : r5 = 0 ∨ r5 = 1
  · rw [if_pos hz] at h
    cases h
    exact ev_zret dX5_takesSouth_21 rfl hz
  · rw [if_neg hz] at h
    cases h
def f_X6_init (o : Nat) (w : mW) : Option (mW) := Option.bind (some (w ++ [.inr (.inl (6, fun _ => 0))])) fun w1 => Option.bind (pR w1 (some o) 6 0 (some w.length)) fun w2 => Option.bind (some (w2 ++ [.inr (.inl (6, fun _ => 0))])) fun w3 => Option.bind (pR w3 (some o) 6 1 (some w2.length)) fun w4 => Option.bind (some (w4 ++ [.inr (.inl (6, fun _ => 0))])) fun w5 => Option.bind (pR w5 (some o) 6 2 (some w4.length)) fun w6 => some (w6)
set_option maxRecDepth 100000 in
set_option maxHeartbeats 4000000 in
theorem met_X6_init (o : Nat) (w : mW) (res : mW) (h : f_X6_init o w = some res) : mMet M_X6_init 1 [vr ((some o))] w none res := by
  refine ev_met (n := 0) (by decide) rfl fun X => ?_
  unfold f_X6_init at h
  show mEv X M_X6_init 1 _ _ 0 [some (vr ((some o)))] [] w
  refine ev_aload_n (q := 1) dX6_init_0 rfl rfl ?_
  refine ev_obj (q := 4) dX6_init_1 rfl tw_157 tw_obji tw_objc (by decide) (Nat.le_of_ble_eq_true rfl) ?_
  refine ev_aload_n (q := 5) dX6_init_4 rfl rfl ?_
  refine ev_bipush (q := 7) (v := (6 : Int32)) dX6_init_5 rfl (by decide) ?_
  replace h := Option.bind_eq_some_iff.mp h; obtain ⟨w1, hw1, h⟩ := h
  cases hw1
  refine ev_newi (N := 6) dX6_init_7 rfl tw_106 (by decide) (by decide) (by decide) ?_
  replace h := Option.bind_eq_some_iff.mp h; obtain ⟨w2, hw2, h⟩ := h
  refine ev_pRF dX6_init_9 rfl mFit_a fp_X6_9 hw2 rfl ?_
  refine ev_aload_n (q := 13) dX6_init_12 rfl rfl ?_
  refine ev_bipush (q := 15) (v := (6 : Int32)) dX6_init_13 rfl (by decide) ?_
  replace h := Option.bind_eq_some_iff.mp h; obtain ⟨w3, hw3, h⟩ := h
  cases hw3
  refine ev_newi (N := 6) dX6_init_15 rfl tw_106 (by decide) (by decide) (by decide) ?_
  replace h := Option.bind_eq_some_iff.mp h; obtain ⟨w4, hw4, h⟩ := h
  refine ev_pRF dX6_init_17 rfl mFit_a fp_X6_15 hw4 rfl ?_
  refine ev_aload_n (q := 21) dX6_init_20 rfl rfl ?_
  refine ev_bipush (q := 23) (v := (6 : Int32)) dX6_init_21 rfl (by decide) ?_
  replace h := Option.bind_eq_some_iff.mp h; obtain ⟨w5, hw5, h⟩ := h
  cases hw5
  refine ev_newi (N := 6) dX6_init_23 rfl tw_106 (by decide) (by decide) (by decide) ?_
  replace h := Option.bind_eq_some_iff.mp h; obtain ⟨w6, hw6, h⟩ := h
  refine ev_pRF dX6_init_25 rfl mFit_a fp_X6_18 hw6 rfl ?_
  cases h
  exact ev_vret dX6_init_28 rfl
def f_X6_add (o : Nat) (v1 : Int32) (v2 : Int32) (v3 : Int32) (w : mW) : Option (mW) := Option.bind (gR w (some o) 6 0) fun r1 => Option.bind (gI w (some o) 6 3) fun r2 => Option.bind (f_X10_put r1 r2 v1 w) fun w3 => Option.bind (gR w3 (some o) 6 1) fun r4 => Option.bind (gI w3 (some o) 6 3) fun r5 => Option.bind (f_X10_put r4 r5 v2 w3) fun w6 => Option.bind (gR w6 (some o) 6 2) fun r7 => Option.bind (gI w6 (some o) 6 3) fun r8 => Option.bind (f_X10_put r7 r8 v3 w6) fun w9 => Option.bind (gI w9 (some o) 6 3) fun r10 => Option.bind (pI w9 (some o) 6 3 (r10 + (1 : Int32))) fun w11 => some (w11)
set_option maxRecDepth 100000 in
set_option maxHeartbeats 4000000 in
theorem met_X6_add (o : Nat) (v1 : Int32) (v2 : Int32) (v3 : Int32) (w : mW) (res : mW) (h : f_X6_add o v1 v2 v3 w = some res) : mMet M_X6_add 1 [vr ((some o)), vi v1, vi v2, vi v3] w none res := by
  refine ev_met (n := 0) (by decide) rfl fun X => ?_
  unfold f_X6_add at h
  show mEv X M_X6_add 1 _ _ 0 [some (vr ((some o))), some (vi v1), some (vi v2), some (vi v3)] [] w
  refine ev_aload_n (q := 1) dX6_add_0 rfl rfl ?_
  replace h := Option.bind_eq_some_iff.mp h; obtain ⟨r1, hr1, h⟩ := h
  refine ev_gR dX6_add_1 fl_X6_9 hr1 rfl ?_
  refine ev_aload_n (q := 5) dX6_add_4 rfl rfl ?_
  replace h := Option.bind_eq_some_iff.mp h; obtain ⟨r2, hr2, h⟩ := h
  refine ev_gI dX6_add_5 fl_X6_21 hr2 rfl ?_
  refine ev_iload_n (q := 9) dX6_add_8 rfl rfl ?_
  replace h := Option.bind_eq_some_iff.mp h; obtain ⟨w3, hw3, h⟩ := h
  refine ev_invSN (M1 := M_X10_put) (as := [vr r1, vi r2, vi v1]) dX6_add_9 rfl tw_762 cal_X10_put tw_293 (by decide) rfl rfl (Nat.le_of_ble_eq_true rfl) (met_X10_put r1 r2 v1 w _ hw3) ?_
  refine ev_aload_n (q := 13) dX6_add_12 rfl rfl ?_
  replace h := Option.bind_eq_some_iff.mp h; obtain ⟨r4, hr4, h⟩ := h
  refine ev_gR dX6_add_13 fl_X6_15 hr4 rfl ?_
  refine ev_aload_n (q := 17) dX6_add_16 rfl rfl ?_
  replace h := Option.bind_eq_some_iff.mp h; obtain ⟨r5, hr5, h⟩ := h
  refine ev_gI dX6_add_17 fl_X6_21 hr5 rfl ?_
  refine ev_iload_n (q := 21) dX6_add_20 rfl rfl ?_
  replace h := Option.bind_eq_some_iff.mp h; obtain ⟨w6, hw6, h⟩ := h
  refine ev_invSN (M1 := M_X10_put) (as := [vr r4, vi r5, vi v2]) dX6_add_21 rfl tw_762 cal_X10_put tw_293 (by decide) rfl rfl (Nat.le_of_ble_eq_true rfl) (met_X10_put r4 r5 v2 w3 _ hw6) ?_
  refine ev_aload_n (q := 25) dX6_add_24 rfl rfl ?_
  replace h := Option.bind_eq_some_iff.mp h; obtain ⟨r7, hr7, h⟩ := h
  refine ev_gR dX6_add_25 fl_X6_18 hr7 rfl ?_
  refine ev_aload_n (q := 29) dX6_add_28 rfl rfl ?_
  replace h := Option.bind_eq_some_iff.mp h; obtain ⟨r8, hr8, h⟩ := h
  refine ev_gI dX6_add_29 fl_X6_21 hr8 rfl ?_
  refine ev_iload_n (q := 33) dX6_add_32 rfl rfl ?_
  replace h := Option.bind_eq_some_iff.mp h; obtain ⟨w9, hw9, h⟩ := h
  refine ev_invSN (M1 := M_X10_put) (as := [vr r7, vi r8, vi v3]) dX6_add_33 rfl tw_762 cal_X10_put tw_293 (by decide) rfl rfl (Nat.le_of_ble_eq_true rfl) (met_X10_put r7 r8 v3 w6 _ hw9) ?_
  refine ev_aload_n (q := 37) dX6_add_36 rfl rfl ?_
  refine ev_dup (q := 38) dX6_add_37 rfl rfl ?_
  replace h := Option.bind_eq_some_iff.mp h; obtain ⟨r10, hr10, h⟩ := h
  refine ev_gI dX6_add_38 fl_X6_21 hr10 rfl ?_
  refine ev_iconst (q := 42) (v := (1 : Int32)) dX6_add_41 rfl (by decide) ?_
  refine ev_iadd (q := 43) dX6_add_42 rfl ?_
  replace h := Option.bind_eq_some_iff.mp h; obtain ⟨w11, hw11, h⟩ := h
  refine ev_pI dX6_add_43 fp_X6_21 hw11 rfl ?_
  cases h
  exact ev_vret dX6_add_46 rfl
def f_X7_spreads_J17 (s0 : Int32) (w : mW) : Option (Int32) := if s0 = 0 ∨ s0 = 1 then some (s0) else none
set_option maxRecDepth 100000 in
set_option maxHeartbeats 4000000 in
theorem e_X7_spreads_J17 {X : mXs} (s0 : Int32) (w : mW) (res : Int32) (h : f_X7_spreads_J17 s0 w = some res) : mEv X M_X7_spreads 1 (some (vi res)) w 17 [none, none, none] [vi s0] w := by
  unfold f_X7_spreads_J17 at h
  by_cases hz : s0 = 0 ∨ s0 = 1
  · rw [if_pos hz] at h
    cases h
    exact ev_zret dX7_spreads_17 rfl hz
  · rw [if_neg hz] at h
    cases h
def f_X7_spreads_J16 (w : mW) : Option (Int32) := f_X7_spreads_J17 (0 : Int32) w
set_option maxRecDepth 100000 in
set_option maxHeartbeats 4000000 in
theorem e_X7_spreads_J16 {X : mXs} (w : mW) (res : Int32) (h : f_X7_spreads_J16 w = some res) : mEv X M_X7_spreads 1 (some (vi res)) w 16 [none, none, none] [] w := by
  unfold f_X7_spreads_J16 at h
  refine ev_iconst (q := 17) (v := (0 : Int32)) dX7_spreads_16 rfl (by decide) ?_
  exact ev_weak _ (mLe_none (mLe_none (mLe_none mLe_nil))) (e_X7_spreads_J17 (0 : Int32) w _ h)
def f_X7_spreads (o : Nat) (v1 : Int32) (v2 : Int32) (w : mW) : Option (Int32) := if v1 = 0 then (if (1 : Int32) < (if 0 ≤ v2 then v2 else 0 - v2) then (f_X7_spreads_J16 w) else (f_X7_spreads_J17 (1 : Int32) w)) else (f_X7_spreads_J16 w)
set_option maxRecDepth 100000 in
set_option maxHeartbeats 4000000 in
theorem met_X7_spreads (o : Nat) (v1 : Int32) (v2 : Int32) (w : mW) (res : Int32) (h : f_X7_spreads o v1 v2 w = some res) : mMet M_X7_spreads 1 [vr ((some o)), vi v1, vi v2] w (some (vi res)) w := by
  refine ev_met (n := 0) (by decide) rfl fun X => ?_
  unfold f_X7_spreads at h
  show mEv X M_X7_spreads 1 _ _ 0 [some (vr ((some o))), some (vi v1), some (vi v2)] [] w
  refine ev_iload_n (q := 1) dX7_spreads_0 rfl rfl ?_
  by_cases hc : v1 = 0
  · rw [if_pos hc] at h
    refine ev_if_ne_f (q := 4) (t0 := 16) dX7_spreads_1 (by decide) rfl hc ?_
    refine ev_iload_n (q := 5) dX7_spreads_4 rfl rfl ?_
    refine ev_mabs (q := 8) dX7_spreads_5 rfl tw_548 tw_536 tw_mathi tw_537 (by decide) (Nat.le_of_ble_eq_true rfl) ?_
    refine ev_iconst (q := 9) (v := (1 : Int32)) dX7_spreads_8 rfl (by decide) ?_
    by_cases hc : (1 : Int32) < (if 0 ≤ v2 then v2 else 0 - v2)
    · rw [if_pos hc] at h
      refine ev_icmp_gt_t (q := 16) dX7_spreads_9 (by decide) hc ?_
      exact ev_weak _ (mLe_none (mLe_none (mLe_none mLe_nil))) (e_X7_spreads_J16 w _ h)
    · rw [if_neg hc] at h
      refine ev_icmp_gt_f (q := 12) (t0 := 16) dX7_spreads_9 (by decide) rfl hc ?_
      refine ev_iconst (q := 13) (v := (1 : Int32)) dX7_spreads_12 rfl (by decide) ?_
      refine ev_goto (q := 17) dX7_spreads_13 (by decide) ?_
      exact ev_weak _ (mLe_none (mLe_none (mLe_none mLe_nil))) (e_X7_spreads_J17 (1 : Int32) w _ h)
  · rw [if_neg hc] at h
    refine ev_if_ne_t (q := 16) dX7_spreads_1 (by decide) hc ?_
    exact ev_weak _ (mLe_none (mLe_none (mLe_none mLe_nil))) (e_X7_spreads_J16 w _ h)
def f_X8_init (o : Nat) (w : mW) : Option (Unit) := some (())
set_option maxRecDepth 100000 in
set_option maxHeartbeats 4000000 in
theorem met_X8_init (o : Nat) (w : mW) (res : Unit) (h : f_X8_init o w = some res) : mMet M_X8_init 1 [vr ((some o))] w none w := by
  refine ev_met (n := 0) (by decide) rfl fun X => ?_
  unfold f_X8_init at h
  show mEv X M_X8_init 1 _ _ 0 [some (vr ((some o)))] [] w
  refine ev_aload_n (q := 1) dX8_init_0 rfl rfl ?_
  refine ev_obj (q := 4) dX8_init_1 rfl tw_472 tw_obji tw_objc (by decide) (Nat.le_of_ble_eq_true rfl) ?_
  cases h
  exact ev_vret dX8_init_4 rfl
def f_X8_spreads_J18 (s0 : Int32) (w : mW) : Option (Int32) := if s0 = 0 ∨ s0 = 1 then some (s0) else none
set_option maxRecDepth 100000 in
set_option maxHeartbeats 4000000 in
theorem e_X8_spreads_J18 {X : mXs} (s0 : Int32) (w : mW) (res : Int32) (h : f_X8_spreads_J18 s0 w = some res) : mEv X M_X8_spreads 1 (some (vi res)) w 18 [none, none, none] [vi s0] w := by
  unfold f_X8_spreads_J18 at h
  by_cases hz : s0 = 0 ∨ s0 = 1
  · rw [if_pos hz] at h
    cases h
    exact ev_zret dX8_spreads_18 rfl hz
  · rw [if_neg hz] at h
    cases h
def f_X8_spreads (o : Nat) (v1 : Int32) (v2 : Int32) (w : mW) : Option (Int32) := if (1 : Int32) < (if 0 ≤ v1 then v1 else 0 - v1) + (if 0 ≤ v2 then v2 else 0 - v2) then (f_X8_spreads_J18 (0 : Int32) w) else (f_X8_spreads_J18 (1 : Int32) w)
set_option maxRecDepth 100000 in
set_option maxHeartbeats 4000000 in
theorem met_X8_spreads (o : Nat) (v1 : Int32) (v2 : Int32) (w : mW) (res : Int32) (h : f_X8_spreads o v1 v2 w = some res) : mMet M_X8_spreads 1 [vr ((some o)), vi v1, vi v2] w (some (vi res)) w := by
  refine ev_met (n := 0) (by decide) rfl fun X => ?_
  unfold f_X8_spreads at h
  show mEv X M_X8_spreads 1 _ _ 0 [some (vr ((some o))), some (vi v1), some (vi v2)] [] w
  refine ev_iload_n (q := 1) dX8_spreads_0 rfl rfl ?_
  refine ev_mabs (q := 4) dX8_spreads_1 rfl tw_551 tw_536 tw_mathi tw_537 (by decide) (Nat.le_of_ble_eq_true rfl) ?_
  refine ev_iload_n (q := 5) dX8_spreads_4 rfl rfl ?_
  refine ev_mabs (q := 8) dX8_spreads_5 rfl tw_551 tw_536 tw_mathi tw_537 (by decide) (Nat.le_of_ble_eq_true rfl) ?_
  refine ev_iadd (q := 9) dX8_spreads_8 rfl ?_
  refine ev_iconst (q := 10) (v := (1 : Int32)) dX8_spreads_9 rfl (by decide) ?_
  by_cases hc : (1 : Int32) < (if 0 ≤ v1 then v1 else 0 - v1) + (if 0 ≤ v2 then v2 else 0 - v2)
  · rw [if_pos hc] at h
    refine ev_icmp_gt_t (q := 17) dX8_spreads_10 (by decide) hc ?_
    refine ev_iconst (q := 18) (v := (0 : Int32)) dX8_spreads_17 rfl (by decide) ?_
    exact ev_weak _ (mLe_none (mLe_none (mLe_none mLe_nil))) (e_X8_spreads_J18 (0 : Int32) w _ h)
  · rw [if_neg hc] at h
    refine ev_icmp_gt_f (q := 13) (t0 := 17) dX8_spreads_10 (by decide) rfl hc ?_
    refine ev_iconst (q := 14) (v := (1 : Int32)) dX8_spreads_13 rfl (by decide) ?_
    refine ev_goto (q := 18) dX8_spreads_14 (by decide) ?_
    exact ev_weak _ (mLe_none (mLe_none (mLe_none mLe_nil))) (e_X8_spreads_J18 (1 : Int32) w _ h)
def f_X9_spreads_J21 (s0 : Int32) (w : mW) : Option (Int32) := if s0 = 0 ∨ s0 = 1 then some (s0) else none
set_option maxRecDepth 100000 in
set_option maxHeartbeats 4000000 in
theorem e_X9_spreads_J21 {X : mXs} (s0 : Int32) (w : mW) (res : Int32) (h : f_X9_spreads_J21 s0 w = some res) : mEv X M_X9_spreads 1 (some (vi res)) w 21 [none, none, none] [vi s0] w := by
  unfold f_X9_spreads_J21 at h
  by_cases hz : s0 = 0 ∨ s0 = 1
  · rw [if_pos hz] at h
    cases h
    exact ev_zret dX9_spreads_21 rfl hz
  · rw [if_neg hz] at h
    cases h
def f_X9_spreads_J20 (w : mW) : Option (Int32) := f_X9_spreads_J21 (0 : Int32) w
set_option maxRecDepth 100000 in
set_option maxHeartbeats 4000000 in
theorem e_X9_spreads_J20 {X : mXs} (w : mW) (res : Int32) (h : f_X9_spreads_J20 w = some res) : mEv X M_X9_spreads 1 (some (vi res)) w 20 [none, none, none] [] w := by
  unfold f_X9_spreads_J20 at h
  refine ev_iconst (q := 21) (v := (0 : Int32)) dX9_spreads_20 rfl (by decide) ?_
  exact ev_weak _ (mLe_none (mLe_none (mLe_none mLe_nil))) (e_X9_spreads_J21 (0 : Int32) w _ h)
def f_X9_spreads (o : Nat) (v1 : Int32) (v2 : Int32) (w : mW) : Option (Int32) := if (1 : Int32) < (if 0 ≤ v1 then v1 else 0 - v1) then (f_X9_spreads_J20 w) else (if (1 : Int32) < (if 0 ≤ v2 then v2 else 0 - v2) then (f_X9_spreads_J20 w) else (f_X9_spreads_J21 (1 : Int32) w))
set_option maxRecDepth 100000 in
set_option maxHeartbeats 4000000 in
theorem met_X9_spreads (o : Nat) (v1 : Int32) (v2 : Int32) (w : mW) (res : Int32) (h : f_X9_spreads o v1 v2 w = some res) : mMet M_X9_spreads 1 [vr ((some o)), vi v1, vi v2] w (some (vi res)) w := by
  refine ev_met (n := 0) (by decide) rfl fun X => ?_
  unfold f_X9_spreads at h
  show mEv X M_X9_spreads 1 _ _ 0 [some (vr ((some o))), some (vi v1), some (vi v2)] [] w
  refine ev_iload_n (q := 1) dX9_spreads_0 rfl rfl ?_
  refine ev_mabs (q := 4) dX9_spreads_1 rfl tw_544 tw_536 tw_mathi tw_537 (by decide) (Nat.le_of_ble_eq_true rfl) ?_
  refine ev_iconst (q := 5) (v := (1 : Int32)) dX9_spreads_4 rfl (by decide) ?_
  by_cases hc : (1 : Int32) < (if 0 ≤ v1 then v1 else 0 - v1)
  · rw [if_pos hc] at h
    refine ev_icmp_gt_t (q := 20) dX9_spreads_5 (by decide) hc ?_
    exact ev_weak _ (mLe_none (mLe_none (mLe_none mLe_nil))) (e_X9_spreads_J20 w _ h)
  · rw [if_neg hc] at h
    refine ev_icmp_gt_f (q := 8) (t0 := 20) dX9_spreads_5 (by decide) rfl hc ?_
    refine ev_iload_n (q := 9) dX9_spreads_8 rfl rfl ?_
    refine ev_mabs (q := 12) dX9_spreads_9 rfl tw_544 tw_536 tw_mathi tw_537 (by decide) (Nat.le_of_ble_eq_true rfl) ?_
    refine ev_iconst (q := 13) (v := (1 : Int32)) dX9_spreads_12 rfl (by decide) ?_
    by_cases hc : (1 : Int32) < (if 0 ≤ v2 then v2 else 0 - v2)
    · rw [if_pos hc] at h
      refine ev_icmp_gt_t (q := 20) dX9_spreads_13 (by decide) hc ?_
      exact ev_weak _ (mLe_none (mLe_none (mLe_none mLe_nil))) (e_X9_spreads_J20 w _ h)
    · rw [if_neg hc] at h
      refine ev_icmp_gt_f (q := 16) (t0 := 20) dX9_spreads_13 (by decide) rfl hc ?_
      refine ev_iconst (q := 17) (v := (1 : Int32)) dX9_spreads_16 rfl (by decide) ?_
      refine ev_goto (q := 21) dX9_spreads_17 (by decide) ?_
      exact ev_weak _ (mLe_none (mLe_none (mLe_none mLe_nil))) (e_X9_spreads_J21 (1 : Int32) w _ h)
def f_X11_init (o : Nat) (w : mW) : Option (mW) := Option.bind (some (w ++ [.inr (.inl (36, fun _ => 0))])) fun w1 => Option.bind (pR w1 (some o) 11 0 (some w.length)) fun w2 => Option.bind (some (w2 ++ [.inr (.inl (6, fun _ => 0))])) fun w3 => Option.bind (pR w3 (some o) 11 10 (some w2.length)) fun w4 => Option.bind (some (w4 ++ [.inr (.inl (6, fun _ => 0))])) fun w5 => Option.bind (pR w5 (some o) 11 11 (some w4.length)) fun w6 => Option.bind (some (w6 ++ [.inr (.inl (6, fun _ => 0))])) fun w7 => Option.bind (pR w7 (some o) 11 12 (some w6.length)) fun w8 => Option.bind (some (w8 ++ [.inr (.inl (6, fun _ => 0))])) fun w9 => Option.bind (pR w9 (some o) 11 13 (some w8.length)) fun w10 => Option.bind (some (w10 ++ [.inr (.inl (4, fun _ => 0))])) fun w11 => Option.bind (pR w11 (some o) 11 14 (some w10.length)) fun w12 => Option.bind (some (w12 ++ [.inr (.inl (4, fun _ => 0))])) fun w13 => Option.bind (pR w13 (some o) 11 15 (some w12.length)) fun w14 => Option.bind (some (w14 ++ [.inr (.inl (4, fun _ => 0))])) fun w15 => Option.bind (pR w15 (some o) 11 16 (some w14.length)) fun w16 => Option.bind (some (w16 ++ [.inr (.inl (4, fun _ => 0))])) fun w17 => Option.bind (pR w17 (some o) 11 17 (some w16.length)) fun w18 => Option.bind (some (w18 ++ [.inr (.inl (144, fun _ => 0))])) fun w19 => Option.bind (pR w19 (some o) 11 18 (some w18.length)) fun w20 => Option.bind (some (w20 ++ [.inr (.inl (9280, fun _ => 0))])) fun w21 => Option.bind (pR w21 (some o) 11 19 (some w20.length)) fun w22 => Option.bind (some (w22 ++ [.inr (.inl (6, fun _ => 0))])) fun w23 => Option.bind (pR w23 (some o) 11 20 (some w22.length)) fun w24 => Option.bind (some (w24 ++ [.inr (.inl (18, fun _ => 0))])) fun w25 => Option.bind (pR w25 (some o) 11 23 (some w24.length)) fun w26 => Option.bind (some (w26 ++ [.inr (.inl (6, fun _ => 0))])) fun w27 => Option.bind (pR w27 (some o) 11 31 (some w26.length)) fun w28 => Option.bind (some (w28 ++ [.inr (.inl (6, fun _ => 0))])) fun w29 => Option.bind (pR w29 (some o) 11 32 (some w28.length)) fun w30 => Option.bind (some (w30 ++ [.inr (.inl (6, fun _ => 0))])) fun w31 => Option.bind (pR w31 (some o) 11 33 (some w30.length)) fun w32 => Option.bind (some (w32 ++ [.inr (.inl (6, fun _ => 0))])) fun w33 => Option.bind (pR w33 (some o) 11 34 (some w32.length)) fun w34 => Option.bind (some (w34 ++ [.inr (.inl (4, fun _ => 0))])) fun w35 => Option.bind (pR w35 (some o) 11 35 (some w34.length)) fun w36 => Option.bind (some (w36 ++ [.inr (.inl (4, fun _ => 0))])) fun w37 => Option.bind (pR w37 (some o) 11 36 (some w36.length)) fun w38 => Option.bind (some (w38 ++ [.inr (.inl (4, fun _ => 0))])) fun w39 => Option.bind (pR w39 (some o) 11 37 (some w38.length)) fun w40 => Option.bind (some (w40 ++ [.inr (.inl (18, fun _ => 0))])) fun w41 => Option.bind (pR w41 (some o) 11 38 (some w40.length)) fun w42 => Option.bind (pI w42 (some o) 11 25 (-1 : Int32)) fun w43 => some (w43)
set_option maxRecDepth 100000 in
set_option maxHeartbeats 4000000 in
theorem met_X11_init (o : Nat) (w : mW) (res : mW) (h : f_X11_init o w = some res) : mMet M_X11_init 1 [vr ((some o))] w none res := by
  refine ev_met (n := 0) (by decide) rfl fun X => ?_
  unfold f_X11_init at h
  show mEv X M_X11_init 1 _ _ 0 [some (vr ((some o)))] [] w
  refine ev_aload_n (q := 1) dX11_init_0 rfl rfl ?_
  refine ev_obj (q := 4) dX11_init_1 rfl tw_827 tw_obji tw_objc (by decide) (Nat.le_of_ble_eq_true rfl) ?_
  refine ev_aload_n (q := 5) dX11_init_4 rfl rfl ?_
  refine ev_bipush (q := 7) (v := (36 : Int32)) dX11_init_5 rfl (by decide) ?_
  replace h := Option.bind_eq_some_iff.mp h; obtain ⟨w1, hw1, h⟩ := h
  cases hw1
  refine ev_newi (N := 36) dX11_init_7 rfl tw_106 (by decide) (by decide) (by decide) ?_
  replace h := Option.bind_eq_some_iff.mp h; obtain ⟨w2, hw2, h⟩ := h
  refine ev_pRF dX11_init_9 rfl mFit_a fp_X11_7 hw2 rfl ?_
  refine ev_aload_n (q := 13) dX11_init_12 rfl rfl ?_
  refine ev_bipush (q := 15) (v := (6 : Int32)) dX11_init_13 rfl (by decide) ?_
  replace h := Option.bind_eq_some_iff.mp h; obtain ⟨w3, hw3, h⟩ := h
  cases hw3
  refine ev_newi (N := 6) dX11_init_15 rfl tw_106 (by decide) (by decide) (by decide) ?_
  replace h := Option.bind_eq_some_iff.mp h; obtain ⟨w4, hw4, h⟩ := h
  refine ev_pRF dX11_init_17 rfl mFit_a fp_X11_13 hw4 rfl ?_
  refine ev_aload_n (q := 21) dX11_init_20 rfl rfl ?_
  refine ev_bipush (q := 23) (v := (6 : Int32)) dX11_init_21 rfl (by decide) ?_
  replace h := Option.bind_eq_some_iff.mp h; obtain ⟨w5, hw5, h⟩ := h
  cases hw5
  refine ev_newi (N := 6) dX11_init_23 rfl tw_106 (by decide) (by decide) (by decide) ?_
  replace h := Option.bind_eq_some_iff.mp h; obtain ⟨w6, hw6, h⟩ := h
  refine ev_pRF dX11_init_25 rfl mFit_a fp_X11_16 hw6 rfl ?_
  refine ev_aload_n (q := 29) dX11_init_28 rfl rfl ?_
  refine ev_bipush (q := 31) (v := (6 : Int32)) dX11_init_29 rfl (by decide) ?_
  replace h := Option.bind_eq_some_iff.mp h; obtain ⟨w7, hw7, h⟩ := h
  cases hw7
  refine ev_newi (N := 6) dX11_init_31 rfl tw_106 (by decide) (by decide) (by decide) ?_
  replace h := Option.bind_eq_some_iff.mp h; obtain ⟨w8, hw8, h⟩ := h
  refine ev_pRF dX11_init_33 rfl mFit_a fp_X11_19 hw8 rfl ?_
  refine ev_aload_n (q := 37) dX11_init_36 rfl rfl ?_
  refine ev_bipush (q := 39) (v := (6 : Int32)) dX11_init_37 rfl (by decide) ?_
  replace h := Option.bind_eq_some_iff.mp h; obtain ⟨w9, hw9, h⟩ := h
  cases hw9
  refine ev_newi (N := 6) dX11_init_39 rfl tw_106 (by decide) (by decide) (by decide) ?_
  replace h := Option.bind_eq_some_iff.mp h; obtain ⟨w10, hw10, h⟩ := h
  refine ev_pRF dX11_init_41 rfl mFit_a fp_X11_22 hw10 rfl ?_
  refine ev_aload_n (q := 45) dX11_init_44 rfl rfl ?_
  refine ev_iconst (q := 46) (v := (4 : Int32)) dX11_init_45 rfl (by decide) ?_
  replace h := Option.bind_eq_some_iff.mp h; obtain ⟨w11, hw11, h⟩ := h
  cases hw11
  refine ev_newi (N := 4) dX11_init_46 rfl tw_106 (by decide) (by decide) (by decide) ?_
  replace h := Option.bind_eq_some_iff.mp h; obtain ⟨w12, hw12, h⟩ := h
  refine ev_pRF dX11_init_48 rfl mFit_a fp_X11_25 hw12 rfl ?_
  refine ev_aload_n (q := 52) dX11_init_51 rfl rfl ?_
  refine ev_iconst (q := 53) (v := (4 : Int32)) dX11_init_52 rfl (by decide) ?_
  replace h := Option.bind_eq_some_iff.mp h; obtain ⟨w13, hw13, h⟩ := h
  cases hw13
  refine ev_newi (N := 4) dX11_init_53 rfl tw_106 (by decide) (by decide) (by decide) ?_
  replace h := Option.bind_eq_some_iff.mp h; obtain ⟨w14, hw14, h⟩ := h
  refine ev_pRF dX11_init_55 rfl mFit_a fp_X11_28 hw14 rfl ?_
  refine ev_aload_n (q := 59) dX11_init_58 rfl rfl ?_
  refine ev_iconst (q := 60) (v := (4 : Int32)) dX11_init_59 rfl (by decide) ?_
  replace h := Option.bind_eq_some_iff.mp h; obtain ⟨w15, hw15, h⟩ := h
  cases hw15
  refine ev_newi (N := 4) dX11_init_60 rfl tw_106 (by decide) (by decide) (by decide) ?_
  replace h := Option.bind_eq_some_iff.mp h; obtain ⟨w16, hw16, h⟩ := h
  refine ev_pRF dX11_init_62 rfl mFit_a fp_X11_31 hw16 rfl ?_
  refine ev_aload_n (q := 66) dX11_init_65 rfl rfl ?_
  refine ev_iconst (q := 67) (v := (4 : Int32)) dX11_init_66 rfl (by decide) ?_
  replace h := Option.bind_eq_some_iff.mp h; obtain ⟨w17, hw17, h⟩ := h
  cases hw17
  refine ev_newi (N := 4) dX11_init_67 rfl tw_106 (by decide) (by decide) (by decide) ?_
  replace h := Option.bind_eq_some_iff.mp h; obtain ⟨w18, hw18, h⟩ := h
  refine ev_pRF dX11_init_69 rfl mFit_a fp_X11_34 hw18 rfl ?_
  refine ev_aload_n (q := 73) dX11_init_72 rfl rfl ?_
  refine ev_sipush (q := 76) (v := (144 : Int32)) dX11_init_73 rfl (by decide) ?_
  replace h := Option.bind_eq_some_iff.mp h; obtain ⟨w19, hw19, h⟩ := h
  cases hw19
  refine ev_newi (N := 144) dX11_init_76 rfl tw_106 (by decide) (by decide) (by decide) ?_
  replace h := Option.bind_eq_some_iff.mp h; obtain ⟨w20, hw20, h⟩ := h
  refine ev_pRF dX11_init_78 rfl mFit_a fp_X11_37 hw20 rfl ?_
  refine ev_aload_n (q := 82) dX11_init_81 rfl rfl ?_
  refine ev_sipush (q := 85) (v := (9280 : Int32)) dX11_init_82 rfl (by decide) ?_
  replace h := Option.bind_eq_some_iff.mp h; obtain ⟨w21, hw21, h⟩ := h
  cases hw21
  refine ev_newi (N := 9280) dX11_init_85 rfl tw_106 (by decide) (by decide) (by decide) ?_
  replace h := Option.bind_eq_some_iff.mp h; obtain ⟨w22, hw22, h⟩ := h
  refine ev_pRF dX11_init_87 rfl mFit_a fp_X11_40 hw22 rfl ?_
  refine ev_aload_n (q := 91) dX11_init_90 rfl rfl ?_
  refine ev_bipush (q := 93) (v := (6 : Int32)) dX11_init_91 rfl (by decide) ?_
  replace h := Option.bind_eq_some_iff.mp h; obtain ⟨w23, hw23, h⟩ := h
  cases hw23
  refine ev_newi (N := 6) dX11_init_93 rfl tw_106 (by decide) (by decide) (by decide) ?_
  replace h := Option.bind_eq_some_iff.mp h; obtain ⟨w24, hw24, h⟩ := h
  refine ev_pRF dX11_init_95 rfl mFit_a fp_X11_43 hw24 rfl ?_
  refine ev_aload_n (q := 99) dX11_init_98 rfl rfl ?_
  refine ev_bipush (q := 101) (v := (18 : Int32)) dX11_init_99 rfl (by decide) ?_
  replace h := Option.bind_eq_some_iff.mp h; obtain ⟨w25, hw25, h⟩ := h
  cases hw25
  refine ev_newi (N := 18) dX11_init_101 rfl tw_106 (by decide) (by decide) (by decide) ?_
  replace h := Option.bind_eq_some_iff.mp h; obtain ⟨w26, hw26, h⟩ := h
  refine ev_pRF dX11_init_103 rfl mFit_a fp_X11_46 hw26 rfl ?_
  refine ev_aload_n (q := 107) dX11_init_106 rfl rfl ?_
  refine ev_bipush (q := 109) (v := (6 : Int32)) dX11_init_107 rfl (by decide) ?_
  replace h := Option.bind_eq_some_iff.mp h; obtain ⟨w27, hw27, h⟩ := h
  cases hw27
  refine ev_newi (N := 6) dX11_init_109 rfl tw_106 (by decide) (by decide) (by decide) ?_
  replace h := Option.bind_eq_some_iff.mp h; obtain ⟨w28, hw28, h⟩ := h
  refine ev_pRF dX11_init_111 rfl mFit_a fp_X11_49 hw28 rfl ?_
  refine ev_aload_n (q := 115) dX11_init_114 rfl rfl ?_
  refine ev_bipush (q := 117) (v := (6 : Int32)) dX11_init_115 rfl (by decide) ?_
  replace h := Option.bind_eq_some_iff.mp h; obtain ⟨w29, hw29, h⟩ := h
  cases hw29
  refine ev_newi (N := 6) dX11_init_117 rfl tw_106 (by decide) (by decide) (by decide) ?_
  replace h := Option.bind_eq_some_iff.mp h; obtain ⟨w30, hw30, h⟩ := h
  refine ev_pRF dX11_init_119 rfl mFit_a fp_X11_52 hw30 rfl ?_
  refine ev_aload_n (q := 123) dX11_init_122 rfl rfl ?_
  refine ev_bipush (q := 125) (v := (6 : Int32)) dX11_init_123 rfl (by decide) ?_
  replace h := Option.bind_eq_some_iff.mp h; obtain ⟨w31, hw31, h⟩ := h
  cases hw31
  refine ev_newi (N := 6) dX11_init_125 rfl tw_106 (by decide) (by decide) (by decide) ?_
  replace h := Option.bind_eq_some_iff.mp h; obtain ⟨w32, hw32, h⟩ := h
  refine ev_pRF dX11_init_127 rfl mFit_a fp_X11_55 hw32 rfl ?_
  refine ev_aload_n (q := 131) dX11_init_130 rfl rfl ?_
  refine ev_bipush (q := 133) (v := (6 : Int32)) dX11_init_131 rfl (by decide) ?_
  replace h := Option.bind_eq_some_iff.mp h; obtain ⟨w33, hw33, h⟩ := h
  cases hw33
  refine ev_newi (N := 6) dX11_init_133 rfl tw_106 (by decide) (by decide) (by decide) ?_
  replace h := Option.bind_eq_some_iff.mp h; obtain ⟨w34, hw34, h⟩ := h
  refine ev_pRF dX11_init_135 rfl mFit_a fp_X11_58 hw34 rfl ?_
  refine ev_aload_n (q := 139) dX11_init_138 rfl rfl ?_
  refine ev_iconst (q := 140) (v := (4 : Int32)) dX11_init_139 rfl (by decide) ?_
  replace h := Option.bind_eq_some_iff.mp h; obtain ⟨w35, hw35, h⟩ := h
  cases hw35
  refine ev_newi (N := 4) dX11_init_140 rfl tw_106 (by decide) (by decide) (by decide) ?_
  replace h := Option.bind_eq_some_iff.mp h; obtain ⟨w36, hw36, h⟩ := h
  refine ev_pRF dX11_init_142 rfl mFit_a fp_X11_61 hw36 rfl ?_
  refine ev_aload_n (q := 146) dX11_init_145 rfl rfl ?_
  refine ev_iconst (q := 147) (v := (4 : Int32)) dX11_init_146 rfl (by decide) ?_
  replace h := Option.bind_eq_some_iff.mp h; obtain ⟨w37, hw37, h⟩ := h
  cases hw37
  refine ev_newi (N := 4) dX11_init_147 rfl tw_106 (by decide) (by decide) (by decide) ?_
  replace h := Option.bind_eq_some_iff.mp h; obtain ⟨w38, hw38, h⟩ := h
  refine ev_pRF dX11_init_149 rfl mFit_a fp_X11_64 hw38 rfl ?_
  refine ev_aload_n (q := 153) dX11_init_152 rfl rfl ?_
  refine ev_iconst (q := 154) (v := (4 : Int32)) dX11_init_153 rfl (by decide) ?_
  replace h := Option.bind_eq_some_iff.mp h; obtain ⟨w39, hw39, h⟩ := h
  cases hw39
  refine ev_newi (N := 4) dX11_init_154 rfl tw_106 (by decide) (by decide) (by decide) ?_
  replace h := Option.bind_eq_some_iff.mp h; obtain ⟨w40, hw40, h⟩ := h
  refine ev_pRF dX11_init_156 rfl mFit_a fp_X11_67 hw40 rfl ?_
  refine ev_aload_n (q := 160) dX11_init_159 rfl rfl ?_
  refine ev_bipush (q := 162) (v := (18 : Int32)) dX11_init_160 rfl (by decide) ?_
  replace h := Option.bind_eq_some_iff.mp h; obtain ⟨w41, hw41, h⟩ := h
  cases hw41
  refine ev_newi (N := 18) dX11_init_162 rfl tw_106 (by decide) (by decide) (by decide) ?_
  replace h := Option.bind_eq_some_iff.mp h; obtain ⟨w42, hw42, h⟩ := h
  refine ev_pRF dX11_init_164 rfl mFit_a fp_X11_70 hw42 rfl ?_
  refine ev_aload_n (q := 168) dX11_init_167 rfl rfl ?_
  refine ev_iconst (q := 169) (v := (-1 : Int32)) dX11_init_168 rfl (by decide) ?_
  replace h := Option.bind_eq_some_iff.mp h; obtain ⟨w43, hw43, h⟩ := h
  refine ev_pI dX11_init_169 fp_X11_73 hw43 rfl ?_
  cases h
  exact ev_vret dX11_init_172 rfl
def f_X11_cellOf_J34 (s0 : Int32) (w : mW) : Option (Int32) := some (s0)
set_option maxRecDepth 100000 in
set_option maxHeartbeats 4000000 in
theorem e_X11_cellOf_J34 {X : mXs} (s0 : Int32) (w : mW) (res : Int32) (h : f_X11_cellOf_J34 s0 w = some res) : mEv X M_X11_cellOf 1 (some (vi res)) w 34 [none, none] [vi s0] w := by
  unfold f_X11_cellOf_J34 at h
  cases h
  exact ev_iret dX11_cellOf_34 rfl rfl
def f_X11_cellOf_J33 (w : mW) : Option (Int32) := f_X11_cellOf_J34 (-1 : Int32) w
set_option maxRecDepth 100000 in
set_option maxHeartbeats 4000000 in
theorem e_X11_cellOf_J33 {X : mXs} (w : mW) (res : Int32) (h : f_X11_cellOf_J33 w = some res) : mEv X M_X11_cellOf 1 (some (vi res)) w 33 [none, none] [] w := by
  unfold f_X11_cellOf_J33 at h
  refine ev_iconst (q := 34) (v := (-1 : Int32)) dX11_cellOf_33 rfl (by decide) ?_
  exact ev_weak _ (mLe_none (mLe_none mLe_nil)) (e_X11_cellOf_J34 (-1 : Int32) w _ h)
def f_X11_cellOf (v0 : Int32) (v1 : Int32) (w : mW) : Option (Int32) := Option.bind (f_X11_in v0.toInt64 (0 : Int64) (5 : Int64) w) fun r1 => if r1 = 0 then (f_X11_cellOf_J33 w) else (Option.bind (f_X11_in v1.toInt64 (0 : Int64) (5 : Int64) w) fun r2 => if r2 = 0 then (f_X11_cellOf_J33 w) else (f_X11_cellOf_J34 (((6 : Int32) * v0) + v1) w))
set_option maxRecDepth 100000 in
set_option maxHeartbeats 4000000 in
theorem met_X11_cellOf (v0 : Int32) (v1 : Int32) (w : mW) (res : Int32) (h : f_X11_cellOf v0 v1 w = some res) : mMet M_X11_cellOf 1 [vi v0, vi v1] w (some (vi res)) w := by
  refine ev_met (n := 0) (by decide) rfl fun X => ?_
  unfold f_X11_cellOf at h
  show mEv X M_X11_cellOf 1 _ _ 0 [some (vi v0), some (vi v1)] [] w
  refine ev_iload_n (q := 1) dX11_cellOf_0 rfl rfl ?_
  refine ev_i2l (q := 2) dX11_cellOf_1 rfl ?_
  refine ev_lconst (q := 3) (v := (0 : Int64)) dX11_cellOf_2 rfl (by decide) ?_
  refine ev_ldc2 (q := 6) (v := (5 : Int64)) dX11_cellOf_3 rfl tw_1014 ?_
  replace h := Option.bind_eq_some_iff.mp h; obtain ⟨r1, hr1, h⟩ := h
  refine ev_invS (M1 := M_X11_in) (as := [vl v0.toInt64, vl ((0 : Int64)), vl ((5 : Int64))]) dX11_cellOf_6 rfl tw_954 cal_X11_in tw_955 (by decide) rfl rfl (Nat.le_of_ble_eq_true rfl) (met_X11_in v0.toInt64 (0 : Int64) (5 : Int64) w _ hr1) ?_
  by_cases hc : r1 = 0
  · rw [if_pos hc] at h
    refine ev_if_eq_t (q := 33) dX11_cellOf_9 (by decide) hc ?_
    exact ev_weak _ (mLe_none (mLe_none mLe_nil)) (e_X11_cellOf_J33 w _ h)
  · rw [if_neg hc] at h
    refine ev_if_eq_f (q := 12) (t0 := 33) dX11_cellOf_9 (by decide) rfl hc ?_
    refine ev_iload_n (q := 13) dX11_cellOf_12 rfl rfl ?_
    refine ev_i2l (q := 14) dX11_cellOf_13 rfl ?_
    refine ev_lconst (q := 15) (v := (0 : Int64)) dX11_cellOf_14 rfl (by decide) ?_
    refine ev_ldc2 (q := 18) (v := (5 : Int64)) dX11_cellOf_15 rfl tw_1014 ?_
    replace h := Option.bind_eq_some_iff.mp h; obtain ⟨r2, hr2, h⟩ := h
    refine ev_invS (M1 := M_X11_in) (as := [vl v1.toInt64, vl ((0 : Int64)), vl ((5 : Int64))]) dX11_cellOf_18 rfl tw_954 cal_X11_in tw_955 (by decide) rfl rfl (Nat.le_of_ble_eq_true rfl) (met_X11_in v1.toInt64 (0 : Int64) (5 : Int64) w _ hr2) ?_
    by_cases hc : r2 = 0
    · rw [if_pos hc] at h
      refine ev_if_eq_t (q := 33) dX11_cellOf_21 (by decide) hc ?_
      exact ev_weak _ (mLe_none (mLe_none mLe_nil)) (e_X11_cellOf_J33 w _ h)
    · rw [if_neg hc] at h
      refine ev_if_eq_f (q := 24) (t0 := 33) dX11_cellOf_21 (by decide) rfl hc ?_
      refine ev_bipush (q := 26) (v := (6 : Int32)) dX11_cellOf_24 rfl (by decide) ?_
      refine ev_iload_n (q := 27) dX11_cellOf_26 rfl rfl ?_
      refine ev_imul (q := 28) dX11_cellOf_27 rfl ?_
      refine ev_iload_n (q := 29) dX11_cellOf_28 rfl rfl ?_
      refine ev_iadd (q := 30) dX11_cellOf_29 rfl ?_
      refine ev_goto (q := 34) dX11_cellOf_30 (by decide) ?_
      exact ev_weak _ (mLe_none (mLe_none mLe_nil)) (e_X11_cellOf_J34 (((6 : Int32) * v0) + v1) w _ h)
