def f_X10_at_J21 (s0 : Int32) (w : mW) : Option (Int32) := some (s0)
set_option maxRecDepth 100000 in
set_option maxHeartbeats 4000000 in
theorem e_X10_at_J21 {X : mXs} (s0 : Int32) (w : mW) (res : Int32) (h : f_X10_at_J21 s0 w = some res) : mEv X M_X10_at 0 (some (vi res)) w 21 [none, none] [vi s0] w := by
  unfold f_X10_at_J21 at h
  cases h
  exact ev_iret dX10_at_21 rfl rfl
def f_X10_at_J20 (w : mW) : Option (Int32) := f_X10_at_J21 (0 : Int32) w
set_option maxRecDepth 100000 in
set_option maxHeartbeats 4000000 in
theorem e_X10_at_J20 {X : mXs} (w : mW) (res : Int32) (h : f_X10_at_J20 w = some res) : mEv X M_X10_at 0 (some (vi res)) w 20 [none, none] [] w := by
  unfold f_X10_at_J20 at h
  refine ev_iconst (q := 21) (v := (0 : Int32)) dX10_at_20 rfl (by decide) ?_
  exact ev_weak _ (mLe_none (mLe_none mLe_nil)) (e_X10_at_J21 (0 : Int32) w _ h)
def f_X10_at (v0 : Option Nat) (v1 : Int32) (w : mW) : Option (Int32) := oC v0 (f_X10_at_J20 w) (fun a1 => if v1 < 0 then (f_X10_at_J20 w) else (Option.bind (aN w (some a1)) fun r2 => if r2 ≤ v1 then (f_X10_at_J20 w) else (Option.bind (aL w (some a1) v1) fun r3 => f_X10_at_J21 r3 w)))
set_option maxRecDepth 100000 in
set_option maxHeartbeats 4000000 in
theorem met_X10_at (v0 : Option Nat) (v1 : Int32) (w : mW) (res : Int32) (h : f_X10_at v0 v1 w = some res) : mMet M_X10_at 0 [vr v0, vi v1] w (some (vi res)) w := by
  refine ev_met (n := 0) (by decide) rfl fun X => ?_
  unfold f_X10_at at h
  show mEv X M_X10_at 0 _ _ 0 [some (vr v0), some (vi v1)] [] w
  refine ev_aload_n (q := 1) dX10_at_0 rfl rfl ?_
  rcases v0 with _ | a1
  · dsimp only [oC] at h
    refine ev_ifnull_t (q := 20) dX10_at_1 (by decide) ?_
    exact ev_weak _ (mLe_none (mLe_none mLe_nil)) (e_X10_at_J20 w _ h)
  · dsimp only [oC] at h
    refine ev_ifnull_f (q := 4) dX10_at_1 rfl ?_
    refine ev_iload_n (q := 5) dX10_at_4 rfl rfl ?_
    by_cases hc : v1 < 0
    · rw [if_pos hc] at h
      refine ev_if_lt_t (q := 20) dX10_at_5 (by decide) hc ?_
      exact ev_weak _ (mLe_none (mLe_none mLe_nil)) (e_X10_at_J20 w _ h)
    · rw [if_neg hc] at h
      refine ev_if_lt_f (q := 8) (t0 := 20) dX10_at_5 (by decide) rfl hc ?_
      refine ev_iload_n (q := 9) dX10_at_8 rfl rfl ?_
      refine ev_aload_n (q := 10) dX10_at_9 rfl rfl ?_
      replace h := Option.bind_eq_some_iff.mp h; obtain ⟨r2, hr2, h⟩ := h
      refine ev_aN dX10_at_10 hr2 rfl ?_
      by_cases hc : r2 ≤ v1
      · rw [if_pos hc] at h
        refine ev_icmp_ge_t (q := 20) dX10_at_11 (by decide) hc ?_
        exact ev_weak _ (mLe_none (mLe_none mLe_nil)) (e_X10_at_J20 w _ h)
      · rw [if_neg hc] at h
        refine ev_icmp_ge_f (q := 14) (t0 := 20) dX10_at_11 (by decide) rfl hc ?_
        refine ev_aload_n (q := 15) dX10_at_14 rfl rfl ?_
        refine ev_iload_n (q := 16) dX10_at_15 rfl rfl ?_
        replace h := Option.bind_eq_some_iff.mp h; obtain ⟨r3, hr3, h⟩ := h
        refine ev_aL dX10_at_16 hr3 rfl ?_
        refine ev_goto (q := 21) dX10_at_17 (by decide) ?_
        exact ev_weak _ (mLe_none (mLe_none mLe_nil)) (e_X10_at_J21 r3 w _ h)
def f_X10_cellAt_J40 (s0 : Int32) (w : mW) : Option (Int32) := some (s0)
set_option maxRecDepth 100000 in
set_option maxHeartbeats 4000000 in
theorem e_X10_cellAt_J40 {X : mXs} (s0 : Int32) (w : mW) (res : Int32) (h : f_X10_cellAt_J40 s0 w = some res) : mEv X M_X10_cellAt 0 (some (vi res)) w 40 [none, none, none] [vi s0] w := by
  unfold f_X10_cellAt_J40 at h
  cases h
  exact ev_iret dX10_cellAt_40 rfl rfl
def f_X10_cellAt_J25 (v0 : Int32) (v1 : Int32) (s0 : Int32) (w : mW) : Option (Int32) := if s0 = 0 then (f_X10_cellAt_J40 (-1 : Int32) w) else (f_X10_cellAt_J40 (((6 : Int32) * v0) + v1) w)
set_option maxRecDepth 100000 in
set_option maxHeartbeats 4000000 in
theorem e_X10_cellAt_J25 {X : mXs} (v0 : Int32) (v1 : Int32) (s0 : Int32) (w : mW) (res : Int32) (h : f_X10_cellAt_J25 v0 v1 s0 w = some res) : mEv X M_X10_cellAt 0 (some (vi res)) w 25 [some (vi v0), some (vi v1), none] [vi s0] w := by
  unfold f_X10_cellAt_J25 at h
  refine ev_istore_n (q := 26) dX10_cellAt_25 rfl (by decide) ?_
  refine ev_iload_n (q := 27) dX10_cellAt_26 rfl rfl ?_
  by_cases hc : s0 = 0
  · rw [if_pos hc] at h
    refine ev_if_eq_t (q := 39) dX10_cellAt_27 (by decide) hc ?_
    refine ev_iconst (q := 40) (v := (-1 : Int32)) dX10_cellAt_39 rfl (by decide) ?_
    exact ev_weak _ (mLe_none (mLe_none (mLe_none mLe_nil))) (e_X10_cellAt_J40 (-1 : Int32) w _ h)
  · rw [if_neg hc] at h
    refine ev_if_eq_f (q := 30) (t0 := 39) dX10_cellAt_27 (by decide) rfl hc ?_
    refine ev_bipush (q := 32) (v := (6 : Int32)) dX10_cellAt_30 rfl (by decide) ?_
    refine ev_iload_n (q := 33) dX10_cellAt_32 rfl rfl ?_
    refine ev_imul (q := 34) dX10_cellAt_33 rfl ?_
    refine ev_iload_n (q := 35) dX10_cellAt_34 rfl rfl ?_
    refine ev_iadd (q := 36) dX10_cellAt_35 rfl ?_
    refine ev_goto (q := 40) dX10_cellAt_36 (by decide) ?_
    exact ev_weak _ (mLe_none (mLe_none (mLe_none mLe_nil))) (e_X10_cellAt_J40 (((6 : Int32) * v0) + v1) w _ h)
def f_X10_cellAt_J24 (v0 : Int32) (v1 : Int32) (w : mW) : Option (Int32) := f_X10_cellAt_J25 v0 v1 (0 : Int32) w
set_option maxRecDepth 100000 in
set_option maxHeartbeats 4000000 in
theorem e_X10_cellAt_J24 {X : mXs} (v0 : Int32) (v1 : Int32) (w : mW) (res : Int32) (h : f_X10_cellAt_J24 v0 v1 w = some res) : mEv X M_X10_cellAt 0 (some (vi res)) w 24 [some (vi v0), some (vi v1), none] [] w := by
  unfold f_X10_cellAt_J24 at h
  refine ev_iconst (q := 25) (v := (0 : Int32)) dX10_cellAt_24 rfl (by decide) ?_
  exact ev_weak _ (mLe_some (mLe_some (mLe_none mLe_nil))) (e_X10_cellAt_J25 v0 v1 (0 : Int32) w _ h)
def f_X10_cellAt (v0 : Int32) (v1 : Int32) (w : mW) : Option (Int32) := if v0 < 0 then (f_X10_cellAt_J24 v0 v1 w) else (if (6 : Int32) ≤ v0 then (f_X10_cellAt_J24 v0 v1 w) else (if v1 < 0 then (f_X10_cellAt_J24 v0 v1 w) else (if (6 : Int32) ≤ v1 then (f_X10_cellAt_J24 v0 v1 w) else (f_X10_cellAt_J25 v0 v1 (1 : Int32) w))))
set_option maxRecDepth 100000 in
set_option maxHeartbeats 4000000 in
theorem met_X10_cellAt (v0 : Int32) (v1 : Int32) (w : mW) (res : Int32) (h : f_X10_cellAt v0 v1 w = some res) : mMet M_X10_cellAt 0 [vi v0, vi v1] w (some (vi res)) w := by
  refine ev_met (n := 1) (by decide) rfl fun X => ?_
  unfold f_X10_cellAt at h
  show mEv X M_X10_cellAt 0 _ _ 0 [some (vi v0), some (vi v1), none] [] w
  refine ev_iload_n (q := 1) dX10_cellAt_0 rfl rfl ?_
  by_cases hc : v0 < 0
  · rw [if_pos hc] at h
    refine ev_if_lt_t (q := 24) dX10_cellAt_1 (by decide) hc ?_
    exact ev_weak _ (mLe_some (mLe_some (mLe_none mLe_nil))) (e_X10_cellAt_J24 v0 v1 w _ h)
  · rw [if_neg hc] at h
    refine ev_if_lt_f (q := 4) (t0 := 24) dX10_cellAt_1 (by decide) rfl hc ?_
    refine ev_iload_n (q := 5) dX10_cellAt_4 rfl rfl ?_
    refine ev_bipush (q := 7) (v := (6 : Int32)) dX10_cellAt_5 rfl (by decide) ?_
    by_cases hc : (6 : Int32) ≤ v0
    · rw [if_pos hc] at h
      refine ev_icmp_ge_t (q := 24) dX10_cellAt_7 (by decide) hc ?_
      exact ev_weak _ (mLe_some (mLe_some (mLe_none mLe_nil))) (e_X10_cellAt_J24 v0 v1 w _ h)
    · rw [if_neg hc] at h
      refine ev_icmp_ge_f (q := 10) (t0 := 24) dX10_cellAt_7 (by decide) rfl hc ?_
      refine ev_iload_n (q := 11) dX10_cellAt_10 rfl rfl ?_
      by_cases hc : v1 < 0
      · rw [if_pos hc] at h
        refine ev_if_lt_t (q := 24) dX10_cellAt_11 (by decide) hc ?_
        exact ev_weak _ (mLe_some (mLe_some (mLe_none mLe_nil))) (e_X10_cellAt_J24 v0 v1 w _ h)
      · rw [if_neg hc] at h
        refine ev_if_lt_f (q := 14) (t0 := 24) dX10_cellAt_11 (by decide) rfl hc ?_
        refine ev_iload_n (q := 15) dX10_cellAt_14 rfl rfl ?_
        refine ev_bipush (q := 17) (v := (6 : Int32)) dX10_cellAt_15 rfl (by decide) ?_
        by_cases hc : (6 : Int32) ≤ v1
        · rw [if_pos hc] at h
          refine ev_icmp_ge_t (q := 24) dX10_cellAt_17 (by decide) hc ?_
          exact ev_weak _ (mLe_some (mLe_some (mLe_none mLe_nil))) (e_X10_cellAt_J24 v0 v1 w _ h)
        · rw [if_neg hc] at h
          refine ev_icmp_ge_f (q := 20) (t0 := 24) dX10_cellAt_17 (by decide) rfl hc ?_
          refine ev_iconst (q := 21) (v := (1 : Int32)) dX10_cellAt_20 rfl (by decide) ?_
          refine ev_goto (q := 25) dX10_cellAt_21 (by decide) ?_
          exact ev_weak _ (mLe_some (mLe_some (mLe_none mLe_nil))) (e_X10_cellAt_J25 v0 v1 (1 : Int32) w _ h)
def f_X10_clear_L2 (v0 : Option Nat) : Nat → Int32 → mW → Option (mW)
  | 0, _, _ => none
  | n + 1, v1, w => oC v0 (some (w)) (fun a1 => Option.bind (aN w (some a1)) fun r2 => if r2 ≤ v1 then (some (w)) else (Option.bind (aS w (some a1) v1 (0 : Int32)) fun w3 => (f_X10_clear_L2 v0 n) (v1 + (1 : Int32)) w3))
set_option maxRecDepth 100000 in
set_option maxHeartbeats 4000000 in
theorem e_X10_clear_L2 {X : mXs} {r : Option mV} {w' : mW} (P : (mW) → Prop) (v0 : Option Nat) (hexit : ∀ y, P y → mEv X M_X10_clear 0 r w' 22 [none, none] [] y) : ∀ (n : Nat) (v1 : Int32) (w : mW) (e : mW), f_X10_clear_L2 v0 n v1 w = some e → P e → mEv X M_X10_clear 0 r w' 2 [some (vr v0), some (vi v1)] [] w := by
  intro n
  induction n with
  | zero =>
    intro v1 w e h hP
    rw [f_X10_clear_L2] at h
    cases h
  | succ n hk =>
    intro v1 w e h hP
    rw [f_X10_clear_L2] at h
    refine ev_aload_n (q := 3) dX10_clear_2 rfl rfl ?_
    rcases v0 with _ | a1
    · dsimp only [oC] at h
      refine ev_ifnull_t (q := 22) dX10_clear_3 (by decide) ?_
      cases h
      exact ev_weak _ (mLe_none (mLe_none mLe_nil)) (hexit _ hP)
    · dsimp only [oC] at h
      refine ev_ifnull_f (q := 6) dX10_clear_3 rfl ?_
      refine ev_iload_n (q := 7) dX10_clear_6 rfl rfl ?_
      refine ev_aload_n (q := 8) dX10_clear_7 rfl rfl ?_
      replace h := Option.bind_eq_some_iff.mp h; obtain ⟨r2, hr2, h⟩ := h
      refine ev_aN dX10_clear_8 hr2 rfl ?_
      by_cases hc : r2 ≤ v1
      · rw [if_pos hc] at h
        refine ev_icmp_ge_t (q := 22) dX10_clear_9 (by decide) hc ?_
        cases h
        exact ev_weak _ (mLe_none (mLe_none mLe_nil)) (hexit _ hP)
      · rw [if_neg hc] at h
        refine ev_icmp_ge_f (q := 12) (t0 := 22) dX10_clear_9 (by decide) rfl hc ?_
        refine ev_aload_n (q := 13) dX10_clear_12 rfl rfl ?_
        refine ev_iload_n (q := 14) dX10_clear_13 rfl rfl ?_
        refine ev_iconst (q := 15) (v := (0 : Int32)) dX10_clear_14 rfl (by decide) ?_
        replace h := Option.bind_eq_some_iff.mp h; obtain ⟨w3, hw3, h⟩ := h
        refine ev_aS dX10_clear_15 hw3 rfl ?_
        refine ev_iinc (q := 19) (v := v1 + (1 : Int32)) dX10_clear_16 rfl (by decide) rfl (by rfl) ?_
        refine ev_goto (q := 2) dX10_clear_19 (by decide) ?_
        exact ev_weak _ (mLe_some (mLe_some mLe_nil)) (hk (v1 + (1 : Int32)) w3 _ h hP)
def f_X10_clear (v0 : Option Nat) (w : mW) : Option (mW) := Option.bind (f_X10_clear_L2 v0 mFuel (0 : Int32) w) fun e4 => some (e4)
set_option maxRecDepth 100000 in
set_option maxHeartbeats 4000000 in
theorem met_X10_clear (v0 : Option Nat) (w : mW) (res : mW) (h : f_X10_clear v0 w = some res) : mMet M_X10_clear 0 [vr v0] w none res := by
  refine ev_met (n := 1) (by decide) rfl fun X => ?_
  unfold f_X10_clear at h
  show mEv X M_X10_clear 0 _ _ 0 [some (vr v0), none] [] w
  refine ev_iconst (q := 1) (v := (0 : Int32)) dX10_clear_0 rfl (by decide) ?_
  refine ev_istore_n (q := 2) dX10_clear_1 rfl (by decide) ?_
  replace h := Option.bind_eq_some_iff.mp h; obtain ⟨e4, he4, h⟩ := h
  refine ev_weak _ (mLe_some (mLe_some mLe_nil)) (e_X10_clear_L2 (fun z => e4 = z) v0 (fun e4q hq => ?_) mFuel (0 : Int32) w _ he4 rfl)
  subst hq
  cases h
  exact ev_vret dX10_clear_22 rfl
def f_X10_draw_J15 (s0 : Int32) (w : mW) : Option (Int32) := some (s0)
set_option maxRecDepth 100000 in
set_option maxHeartbeats 4000000 in
theorem e_X10_draw_J15 {X : mXs} (s0 : Int32) (w : mW) (res : Int32) (h : f_X10_draw_J15 s0 w = some res) : mEv X M_X10_draw 0 (some (vi res)) w 15 [none, none] [vi s0] w := by
  unfold f_X10_draw_J15 at h
  cases h
  exact ev_iret dX10_draw_15 rfl rfl
def f_X10_draw (v0 : Int32) (v1 : Int32) (w : mW) : Option (Int32) := if v1 ≤ 0 then (f_X10_draw_J15 (0 : Int32) w) else (if v1 = 0 then none else f_X10_draw_J15 ((v0 / (65536 : Int32)) - (v0 / (65536 : Int32)) / v1 * v1) w)
set_option maxRecDepth 100000 in
set_option maxHeartbeats 4000000 in
theorem met_X10_draw (v0 : Int32) (v1 : Int32) (w : mW) (res : Int32) (h : f_X10_draw v0 v1 w = some res) : mMet M_X10_draw 0 [vi v0, vi v1] w (some (vi res)) w := by
  refine ev_met (n := 0) (by decide) rfl fun X => ?_
  unfold f_X10_draw at h
  show mEv X M_X10_draw 0 _ _ 0 [some (vi v0), some (vi v1)] [] w
  refine ev_iload_n (q := 1) dX10_draw_0 rfl rfl ?_
  by_cases hc : v1 ≤ 0
  · rw [if_pos hc] at h
    refine ev_if_le_t (q := 14) dX10_draw_1 (by decide) hc ?_
    refine ev_iconst (q := 15) (v := (0 : Int32)) dX10_draw_14 rfl (by decide) ?_
    exact ev_weak _ (mLe_none (mLe_none mLe_nil)) (e_X10_draw_J15 (0 : Int32) w _ h)
  · rw [if_neg hc] at h
    refine ev_if_le_f (q := 4) (t0 := 14) dX10_draw_1 (by decide) rfl hc ?_
    refine ev_iload_n (q := 5) dX10_draw_4 rfl rfl ?_
    refine ev_ldcw (q := 8) (v := (65536 : Int32)) dX10_draw_5 rfl tw_654 ?_
    refine ev_idiv (q := 9) dX10_draw_8 rfl (by decide) ?_
    refine ev_iload_n (q := 10) dX10_draw_9 rfl rfl ?_
    split at h
    · cases h
    rename_i h0
    refine ev_irem (q := 11) dX10_draw_10 rfl h0 ?_
    refine ev_goto (q := 15) dX10_draw_11 (by decide) ?_
    exact ev_weak _ (mLe_none (mLe_none mLe_nil)) (e_X10_draw_J15 ((v0 / (65536 : Int32)) - (v0 / (65536 : Int32)) / v1 * v1) w _ h)
def f_X10_hasPort_J12 (s0 : Int32) (w : mW) : Option (Int32) := if s0 = 0 ∨ s0 = 1 then some (s0) else none
set_option maxRecDepth 100000 in
set_option maxHeartbeats 4000000 in
theorem e_X10_hasPort_J12 {X : mXs} (s0 : Int32) (w : mW) (res : Int32) (h : f_X10_hasPort_J12 s0 w = some res) : mEv X M_X10_hasPort 0 (some (vi res)) w 12 [none] [vi s0] w := by
  unfold f_X10_hasPort_J12 at h
  by_cases hz : s0 = 0 ∨ s0 = 1
  · rw [if_pos hz] at h
    cases h
    exact ev_zret dX10_hasPort_12 rfl hz
  · rw [if_neg hz] at h
    cases h
def f_X10_hasPort (o : Nat) (w : mW) : Option (Int32) := Option.bind (gI w (some o) 10 7) fun r1 => if r1 ≤ 0 then (f_X10_hasPort_J12 (0 : Int32) w) else (f_X10_hasPort_J12 (1 : Int32) w)
set_option maxRecDepth 100000 in
set_option maxHeartbeats 4000000 in
theorem met_X10_hasPort (o : Nat) (w : mW) (res : Int32) (h : f_X10_hasPort o w = some res) : mMet M_X10_hasPort 0 [vr ((some o))] w (some (vi res)) w := by
  refine ev_met (n := 0) (by decide) rfl fun X => ?_
  unfold f_X10_hasPort at h
  show mEv X M_X10_hasPort 0 _ _ 0 [some (vr ((some o)))] [] w
  refine ev_aload_n (q := 1) dX10_hasPort_0 rfl rfl ?_
  replace h := Option.bind_eq_some_iff.mp h; obtain ⟨r1, hr1, h⟩ := h
  refine ev_gI dX10_hasPort_1 fl_X10_72 hr1 rfl ?_
  by_cases hc : r1 ≤ 0
  · rw [if_pos hc] at h
    refine ev_if_le_t (q := 11) dX10_hasPort_4 (by decide) hc ?_
    refine ev_iconst (q := 12) (v := (0 : Int32)) dX10_hasPort_11 rfl (by decide) ?_
    exact ev_weak _ (mLe_none mLe_nil) (e_X10_hasPort_J12 (0 : Int32) w _ h)
  · rw [if_neg hc] at h
    refine ev_if_le_f (q := 7) (t0 := 11) dX10_hasPort_4 (by decide) rfl hc ?_
    refine ev_iconst (q := 8) (v := (1 : Int32)) dX10_hasPort_7 rfl (by decide) ?_
    refine ev_goto (q := 12) dX10_hasPort_8 (by decide) ?_
    exact ev_weak _ (mLe_none mLe_nil) (e_X10_hasPort_J12 (1 : Int32) w _ h)
def f_X10_isColumn_J15 (s0 : Int32) (w : mW) : Option (Int32) := if s0 = 0 ∨ s0 = 1 then some (s0) else none
set_option maxRecDepth 100000 in
set_option maxHeartbeats 4000000 in
theorem e_X10_isColumn_J15 {X : mXs} (s0 : Int32) (w : mW) (res : Int32) (h : f_X10_isColumn_J15 s0 w = some res) : mEv X M_X10_isColumn 0 (some (vi res)) w 15 [none] [vi s0] w := by
  unfold f_X10_isColumn_J15 at h
  by_cases hz : s0 = 0 ∨ s0 = 1
  · rw [if_pos hz] at h
    cases h
    exact ev_zret dX10_isColumn_15 rfl hz
  · rw [if_neg hz] at h
    cases h
def f_X10_isColumn_J14 (w : mW) : Option (Int32) := f_X10_isColumn_J15 (0 : Int32) w
set_option maxRecDepth 100000 in
set_option maxHeartbeats 4000000 in
theorem e_X10_isColumn_J14 {X : mXs} (w : mW) (res : Int32) (h : f_X10_isColumn_J14 w = some res) : mEv X M_X10_isColumn 0 (some (vi res)) w 14 [none] [] w := by
  unfold f_X10_isColumn_J14 at h
  refine ev_iconst (q := 15) (v := (0 : Int32)) dX10_isColumn_14 rfl (by decide) ?_
  exact ev_weak _ (mLe_none mLe_nil) (e_X10_isColumn_J15 (0 : Int32) w _ h)
def f_X10_isColumn (v0 : Int32) (w : mW) : Option (Int32) := if v0 < 0 then (f_X10_isColumn_J14 w) else (if (6 : Int32) ≤ v0 then (f_X10_isColumn_J14 w) else (f_X10_isColumn_J15 (1 : Int32) w))
set_option maxRecDepth 100000 in
set_option maxHeartbeats 4000000 in
theorem met_X10_isColumn (v0 : Int32) (w : mW) (res : Int32) (h : f_X10_isColumn v0 w = some res) : mMet M_X10_isColumn 0 [vi v0] w (some (vi res)) w := by
  refine ev_met (n := 0) (by decide) rfl fun X => ?_
  unfold f_X10_isColumn at h
  show mEv X M_X10_isColumn 0 _ _ 0 [some (vi v0)] [] w
  refine ev_iload_n (q := 1) dX10_isColumn_0 rfl rfl ?_
  by_cases hc : v0 < 0
  · rw [if_pos hc] at h
    refine ev_if_lt_t (q := 14) dX10_isColumn_1 (by decide) hc ?_
    exact ev_weak _ (mLe_none mLe_nil) (e_X10_isColumn_J14 w _ h)
  · rw [if_neg hc] at h
    refine ev_if_lt_f (q := 4) (t0 := 14) dX10_isColumn_1 (by decide) rfl hc ?_
    refine ev_iload_n (q := 5) dX10_isColumn_4 rfl rfl ?_
    refine ev_bipush (q := 7) (v := (6 : Int32)) dX10_isColumn_5 rfl (by decide) ?_
    by_cases hc : (6 : Int32) ≤ v0
    · rw [if_pos hc] at h
      refine ev_icmp_ge_t (q := 14) dX10_isColumn_7 (by decide) hc ?_
      exact ev_weak _ (mLe_none mLe_nil) (e_X10_isColumn_J14 w _ h)
    · rw [if_neg hc] at h
      refine ev_icmp_ge_f (q := 10) (t0 := 14) dX10_isColumn_7 (by decide) rfl hc ?_
      refine ev_iconst (q := 11) (v := (1 : Int32)) dX10_isColumn_10 rfl (by decide) ?_
      refine ev_goto (q := 15) dX10_isColumn_11 (by decide) ?_
      exact ev_weak _ (mLe_none mLe_nil) (e_X10_isColumn_J15 (1 : Int32) w _ h)
def f_X10_isOfKind_J45 (s0 : Int32) (w : mW) : Option (Int32) := if s0 = 0 ∨ s0 = 1 then some (s0) else none
set_option maxRecDepth 100000 in
set_option maxHeartbeats 4000000 in
theorem e_X10_isOfKind_J45 {X : mXs} (s0 : Int32) (w : mW) (res : Int32) (h : f_X10_isOfKind_J45 s0 w = some res) : mEv X M_X10_isOfKind 0 (some (vi res)) w 45 [none, none] [vi s0] w := by
  unfold f_X10_isOfKind_J45 at h
  by_cases hz : s0 = 0 ∨ s0 = 1
  · rw [if_pos hz] at h
    cases h
    exact ev_zret dX10_isOfKind_45 rfl hz
  · rw [if_neg hz] at h
    cases h
def f_X10_isOfKind (v0 : Option Nat) (v1 : Int32) (w : mW) : Option (Int32) := if v1 = 0 then (oC v0 (f_X10_isOfKind_J45 (0 : Int32) w) (fun a1 => f_X10_isOfKind_J45 (1 : Int32) w)) else (if v1 = 1 then (Option.bind (iO w v0 0) fun r2 => if r2 = 0 ∨ r2 = 1 then some (r2) else none) else (if v1 = 2 then (Option.bind (iO w v0 9) fun r3 => if r3 = 0 ∨ r3 = 1 then some (r3) else none) else (if v1 = 3 then (Option.bind (iO w v0 7) fun r4 => if r4 = 0 ∨ r4 = 1 then some (r4) else none) else (if v1 = 4 then (Option.bind (iO w v0 1) fun r5 => if r5 = 0 ∨ r5 = 1 then some (r5) else none) else (some ((0 : Int32)))))))
set_option maxRecDepth 100000 in
set_option maxHeartbeats 4000000 in
theorem met_X10_isOfKind (v0 : Option Nat) (v1 : Int32) (w : mW) (res : Int32) (h : f_X10_isOfKind v0 v1 w = some res) : mMet M_X10_isOfKind 0 [vr v0, vi v1] w (some (vi res)) w := by
  refine ev_met (n := 0) (by decide) rfl fun X => ?_
  unfold f_X10_isOfKind at h
  show mEv X M_X10_isOfKind 0 _ _ 0 [some (vr v0), some (vi v1)] [] w
  refine ev_iload_n (q := 1) dX10_isOfKind_0 rfl rfl ?_
  by_cases hc0 : v1 = 0
  · rw [if_pos hc0] at h
    refine ev_table_in (q := 36) (off := 35) dX10_isOfKind_1 (by rw [hc0]; decide) (by rw [hc0]; decide) (by rw [hc0]; rfl) (by decide) ?_
    refine ev_aload_n (q := 37) dX10_isOfKind_36 rfl rfl ?_
    rcases v0 with _ | a1
    · dsimp only [oC] at h
      refine ev_ifnull_t (q := 44) dX10_isOfKind_37 (by decide) ?_
      refine ev_iconst (q := 45) (v := (0 : Int32)) dX10_isOfKind_44 rfl (by decide) ?_
      exact ev_weak _ (mLe_none (mLe_none mLe_nil)) (e_X10_isOfKind_J45 (0 : Int32) w _ h)
    · dsimp only [oC] at h
      refine ev_ifnull_f (q := 40) dX10_isOfKind_37 rfl ?_
      refine ev_iconst (q := 41) (v := (1 : Int32)) dX10_isOfKind_40 rfl (by decide) ?_
      refine ev_goto (q := 45) dX10_isOfKind_41 (by decide) ?_
      exact ev_weak _ (mLe_none (mLe_none mLe_nil)) (e_X10_isOfKind_J45 (1 : Int32) w _ h)
  · rw [if_neg hc0] at h
    by_cases hc1 : v1 = 1
    · rw [if_pos hc1] at h
      refine ev_table_in (q := 46) (off := 45) dX10_isOfKind_1 (by rw [hc1]; decide) (by rw [hc1]; decide) (by rw [hc1]; rfl) (by decide) ?_
      refine ev_aload_n (q := 47) dX10_isOfKind_46 rfl rfl ?_
      replace h := Option.bind_eq_some_iff.mp h; obtain ⟨r2, hr2, h⟩ := h
      refine ev_iO dX10_isOfKind_47 tw_410 (by decide +kernel) tw_738 hr2 rfl ?_
      by_cases hz : r2 = 0 ∨ r2 = 1
      · rw [if_pos hz] at h
        cases h
        exact ev_zret dX10_isOfKind_50 rfl hz
      · rw [if_neg hz] at h
        cases h
    · rw [if_neg hc1] at h
      by_cases hc2 : v1 = 2
      · rw [if_pos hc2] at h
        refine ev_table_in (q := 51) (off := 50) dX10_isOfKind_1 (by rw [hc2]; decide) (by rw [hc2]; decide) (by rw [hc2]; rfl) (by decide) ?_
        refine ev_aload_n (q := 52) dX10_isOfKind_51 rfl rfl ?_
        replace h := Option.bind_eq_some_iff.mp h; obtain ⟨r3, hr3, h⟩ := h
        refine ev_iO dX10_isOfKind_52 tw_420 (by decide +kernel) tw_738 hr3 rfl ?_
        by_cases hz : r3 = 0 ∨ r3 = 1
        · rw [if_pos hz] at h
          cases h
          exact ev_zret dX10_isOfKind_55 rfl hz
        · rw [if_neg hz] at h
          cases h
      · rw [if_neg hc2] at h
        by_cases hc3 : v1 = 3
        · rw [if_pos hc3] at h
          refine ev_table_in (q := 56) (off := 55) dX10_isOfKind_1 (by rw [hc3]; decide) (by rw [hc3]; decide) (by rw [hc3]; rfl) (by decide) ?_
          refine ev_aload_n (q := 57) dX10_isOfKind_56 rfl rfl ?_
          replace h := Option.bind_eq_some_iff.mp h; obtain ⟨r4, hr4, h⟩ := h
          refine ev_iO dX10_isOfKind_57 tw_427 (by decide +kernel) tw_738 hr4 rfl ?_
          by_cases hz : r4 = 0 ∨ r4 = 1
          · rw [if_pos hz] at h
            cases h
            exact ev_zret dX10_isOfKind_60 rfl hz
          · rw [if_neg hz] at h
            cases h
        · rw [if_neg hc3] at h
          by_cases hc4 : v1 = 4
          · rw [if_pos hc4] at h
            refine ev_table_in (q := 61) (off := 60) dX10_isOfKind_1 (by rw [hc4]; decide) (by rw [hc4]; decide) (by rw [hc4]; rfl) (by decide) ?_
            refine ev_aload_n (q := 62) dX10_isOfKind_61 rfl rfl ?_
            replace h := Option.bind_eq_some_iff.mp h; obtain ⟨r5, hr5, h⟩ := h
            refine ev_iO dX10_isOfKind_62 tw_434 (by decide +kernel) tw_738 hr5 rfl ?_
            by_cases hz : r5 = 0 ∨ r5 = 1
            · rw [if_pos hz] at h
              cases h
              exact ev_zret dX10_isOfKind_65 rfl hz
            · rw [if_neg hz] at h
              cases h
          · rw [if_neg hc4] at h
            refine ev_table_out (q := 66) dX10_isOfKind_1 (by have z0 := mNe (z := 0) (by decide) hc0; have z1 := mNe (z := 1) (by decide) hc1; have z2 := mNe (z := 2) (by decide) hc2; have z3 := mNe (z := 3) (by decide) hc3; have z4 := mNe (z := 4) (by decide) hc4; omega) (by decide) ?_
            refine ev_iconst (q := 67) (v := (0 : Int32)) dX10_isOfKind_66 rfl (by decide) ?_
            cases h
            exact ev_zret dX10_isOfKind_67 rfl (Or.inl rfl)
def f_X10_isSleeper_J17 (s0 : Int32) (w : mW) : Option (Int32) := if s0 = 0 ∨ s0 = 1 then some (s0) else none
set_option maxRecDepth 100000 in
set_option maxHeartbeats 4000000 in
theorem e_X10_isSleeper_J17 {X : mXs} (s0 : Int32) (w : mW) (res : Int32) (h : f_X10_isSleeper_J17 s0 w = some res) : mEv X M_X10_isSleeper 0 (some (vi res)) w 17 [none, none] [vi s0] w := by
  unfold f_X10_isSleeper_J17 at h
  by_cases hz : s0 = 0 ∨ s0 = 1
  · rw [if_pos hz] at h
    cases h
    exact ev_zret dX10_isSleeper_17 rfl hz
  · rw [if_neg hz] at h
    cases h
def f_X10_isSleeper_J16 (w : mW) : Option (Int32) := f_X10_isSleeper_J17 (0 : Int32) w
set_option maxRecDepth 100000 in
set_option maxHeartbeats 4000000 in
theorem e_X10_isSleeper_J16 {X : mXs} (w : mW) (res : Int32) (h : f_X10_isSleeper_J16 w = some res) : mEv X M_X10_isSleeper 0 (some (vi res)) w 16 [none, none] [] w := by
  unfold f_X10_isSleeper_J16 at h
  refine ev_iconst (q := 17) (v := (0 : Int32)) dX10_isSleeper_16 rfl (by decide) ?_
  exact ev_weak _ (mLe_none (mLe_none mLe_nil)) (e_X10_isSleeper_J17 (0 : Int32) w _ h)
def f_X10_isSleeper (o : Nat) (v1 : Int32) (w : mW) : Option (Int32) := if v1 < 0 then (f_X10_isSleeper_J16 w) else (Option.bind (gI w (some o) 10 7) fun r1 => if r1 ≤ v1 then (f_X10_isSleeper_J16 w) else (f_X10_isSleeper_J17 (1 : Int32) w))
set_option maxRecDepth 100000 in
set_option maxHeartbeats 4000000 in
theorem met_X10_isSleeper (o : Nat) (v1 : Int32) (w : mW) (res : Int32) (h : f_X10_isSleeper o v1 w = some res) : mMet M_X10_isSleeper 0 [vr ((some o)), vi v1] w (some (vi res)) w := by
  refine ev_met (n := 0) (by decide) rfl fun X => ?_
  unfold f_X10_isSleeper at h
  show mEv X M_X10_isSleeper 0 _ _ 0 [some (vr ((some o))), some (vi v1)] [] w
  refine ev_iload_n (q := 1) dX10_isSleeper_0 rfl rfl ?_
  by_cases hc : v1 < 0
  · rw [if_pos hc] at h
    refine ev_if_lt_t (q := 16) dX10_isSleeper_1 (by decide) hc ?_
    exact ev_weak _ (mLe_none (mLe_none mLe_nil)) (e_X10_isSleeper_J16 w _ h)
  · rw [if_neg hc] at h
    refine ev_if_lt_f (q := 4) (t0 := 16) dX10_isSleeper_1 (by decide) rfl hc ?_
    refine ev_iload_n (q := 5) dX10_isSleeper_4 rfl rfl ?_
    refine ev_aload_n (q := 6) dX10_isSleeper_5 rfl rfl ?_
    replace h := Option.bind_eq_some_iff.mp h; obtain ⟨r1, hr1, h⟩ := h
    refine ev_gI dX10_isSleeper_6 fl_X10_72 hr1 rfl ?_
    by_cases hc : r1 ≤ v1
    · rw [if_pos hc] at h
      refine ev_icmp_ge_t (q := 16) dX10_isSleeper_9 (by decide) hc ?_
      exact ev_weak _ (mLe_none (mLe_none mLe_nil)) (e_X10_isSleeper_J16 w _ h)
    · rw [if_neg hc] at h
      refine ev_icmp_ge_f (q := 12) (t0 := 16) dX10_isSleeper_9 (by decide) rfl hc ?_
      refine ev_iconst (q := 13) (v := (1 : Int32)) dX10_isSleeper_12 rfl (by decide) ?_
      refine ev_goto (q := 17) dX10_isSleeper_13 (by decide) ?_
      exact ev_weak _ (mLe_none (mLe_none mLe_nil)) (e_X10_isSleeper_J17 (1 : Int32) w _ h)
def f_X10_isTurn_J14 (s0 : Int32) (w : mW) : Option (Int32) := if s0 = 0 ∨ s0 = 1 then some (s0) else none
set_option maxRecDepth 100000 in
set_option maxHeartbeats 4000000 in
theorem e_X10_isTurn_J14 {X : mXs} (s0 : Int32) (w : mW) (res : Int32) (h : f_X10_isTurn_J14 s0 w = some res) : mEv X M_X10_isTurn 0 (some (vi res)) w 14 [none] [vi s0] w := by
  unfold f_X10_isTurn_J14 at h
  by_cases hz : s0 = 0 ∨ s0 = 1
  · rw [if_pos hz] at h
    cases h
    exact ev_zret dX10_isTurn_14 rfl hz
  · rw [if_neg hz] at h
    cases h
def f_X10_isTurn_J13 (w : mW) : Option (Int32) := f_X10_isTurn_J14 (0 : Int32) w
set_option maxRecDepth 100000 in
set_option maxHeartbeats 4000000 in
theorem e_X10_isTurn_J13 {X : mXs} (w : mW) (res : Int32) (h : f_X10_isTurn_J13 w = some res) : mEv X M_X10_isTurn 0 (some (vi res)) w 13 [none] [] w := by
  unfold f_X10_isTurn_J13 at h
  refine ev_iconst (q := 14) (v := (0 : Int32)) dX10_isTurn_13 rfl (by decide) ?_
  exact ev_weak _ (mLe_none mLe_nil) (e_X10_isTurn_J14 (0 : Int32) w _ h)
def f_X10_isTurn (v0 : Int32) (w : mW) : Option (Int32) := if v0 < 0 then (f_X10_isTurn_J13 w) else (if (5 : Int32) ≤ v0 then (f_X10_isTurn_J13 w) else (f_X10_isTurn_J14 (1 : Int32) w))
set_option maxRecDepth 100000 in
set_option maxHeartbeats 4000000 in
theorem met_X10_isTurn (v0 : Int32) (w : mW) (res : Int32) (h : f_X10_isTurn v0 w = some res) : mMet M_X10_isTurn 0 [vi v0] w (some (vi res)) w := by
  refine ev_met (n := 0) (by decide) rfl fun X => ?_
  unfold f_X10_isTurn at h
  show mEv X M_X10_isTurn 0 _ _ 0 [some (vi v0)] [] w
  refine ev_iload_n (q := 1) dX10_isTurn_0 rfl rfl ?_
  by_cases hc : v0 < 0
  · rw [if_pos hc] at h
    refine ev_if_lt_t (q := 13) dX10_isTurn_1 (by decide) hc ?_
    exact ev_weak _ (mLe_none mLe_nil) (e_X10_isTurn_J13 w _ h)
  · rw [if_neg hc] at h
    refine ev_if_lt_f (q := 4) (t0 := 13) dX10_isTurn_1 (by decide) rfl hc ?_
    refine ev_iload_n (q := 5) dX10_isTurn_4 rfl rfl ?_
    refine ev_iconst (q := 6) (v := (5 : Int32)) dX10_isTurn_5 rfl (by decide) ?_
    by_cases hc : (5 : Int32) ≤ v0
    · rw [if_pos hc] at h
      refine ev_icmp_ge_t (q := 13) dX10_isTurn_6 (by decide) hc ?_
      exact ev_weak _ (mLe_none mLe_nil) (e_X10_isTurn_J13 w _ h)
    · rw [if_neg hc] at h
      refine ev_icmp_ge_f (q := 9) (t0 := 13) dX10_isTurn_6 (by decide) rfl hc ?_
      refine ev_iconst (q := 10) (v := (1 : Int32)) dX10_isTurn_9 rfl (by decide) ?_
      refine ev_goto (q := 14) dX10_isTurn_10 (by decide) ?_
      exact ev_weak _ (mLe_none mLe_nil) (e_X10_isTurn_J14 (1 : Int32) w _ h)
def f_X10_nextSeed (v0 : Int32) (w : mW) : Option (Int32) := some (((((1103515245 : Int64) * v0.toInt64) + (12345 : Int64)) - (((1103515245 : Int64) * v0.toInt64) + (12345 : Int64)) / (2147483648 : Int64) * (2147483648 : Int64)).toInt32)
set_option maxRecDepth 100000 in
set_option maxHeartbeats 4000000 in
theorem met_X10_nextSeed (v0 : Int32) (w : mW) (res : Int32) (h : f_X10_nextSeed v0 w = some res) : mMet M_X10_nextSeed 0 [vi v0] w (some (vi res)) w := by
  refine ev_met (n := 0) (by decide) rfl fun X => ?_
  unfold f_X10_nextSeed at h
  show mEv X M_X10_nextSeed 0 _ _ 0 [some (vi v0)] [] w
  refine ev_ldc2 (q := 3) (v := (1103515245 : Int64)) dX10_nextSeed_0 rfl tw_648 ?_
  refine ev_iload_n (q := 4) dX10_nextSeed_3 rfl rfl ?_
  refine ev_i2l (q := 5) dX10_nextSeed_4 rfl ?_
  refine ev_lmul (q := 6) dX10_nextSeed_5 rfl ?_
  refine ev_ldc2 (q := 9) (v := (12345 : Int64)) dX10_nextSeed_6 rfl tw_649 ?_
  refine ev_ladd (q := 10) dX10_nextSeed_9 rfl ?_
  refine ev_ldc2 (q := 13) (v := (2147483648 : Int64)) dX10_nextSeed_10 rfl tw_650 ?_
  refine ev_lrem (q := 14) dX10_nextSeed_13 rfl (by decide) ?_
  refine ev_l2i (q := 15) dX10_nextSeed_14 rfl ?_
  cases h
  exact ev_iret dX10_nextSeed_15 rfl rfl
def f_X10_put_J18 (w : mW) : Option (mW) := some (w)
set_option maxRecDepth 100000 in
set_option maxHeartbeats 4000000 in
theorem e_X10_put_J18 {X : mXs} (w : mW) (res : mW) (h : f_X10_put_J18 w = some res) : mEv X M_X10_put 0 none res 18 [none, none, none] [] w := by
  unfold f_X10_put_J18 at h
  cases h
  exact ev_vret dX10_put_18 rfl
def f_X10_put (v0 : Option Nat) (v1 : Int32) (v2 : Int32) (w : mW) : Option (mW) := oC v0 (f_X10_put_J18 w) (fun a1 => if v1 < 0 then (f_X10_put_J18 w) else (Option.bind (aN w (some a1)) fun r2 => if r2 ≤ v1 then (f_X10_put_J18 w) else (Option.bind (aS w (some a1) v1 v2) fun w3 => f_X10_put_J18 w3)))
set_option maxRecDepth 100000 in
set_option maxHeartbeats 4000000 in
theorem met_X10_put (v0 : Option Nat) (v1 : Int32) (v2 : Int32) (w : mW) (res : mW) (h : f_X10_put v0 v1 v2 w = some res) : mMet M_X10_put 0 [vr v0, vi v1, vi v2] w none res := by
  refine ev_met (n := 0) (by decide) rfl fun X => ?_
  unfold f_X10_put at h
  show mEv X M_X10_put 0 _ _ 0 [some (vr v0), some (vi v1), some (vi v2)] [] w
  refine ev_aload_n (q := 1) dX10_put_0 rfl rfl ?_
  rcases v0 with _ | a1
  · dsimp only [oC] at h
    refine ev_ifnull_t (q := 18) dX10_put_1 (by decide) ?_
    exact ev_weak _ (mLe_none (mLe_none (mLe_none mLe_nil))) (e_X10_put_J18 w _ h)
  · dsimp only [oC] at h
    refine ev_ifnull_f (q := 4) dX10_put_1 rfl ?_
    refine ev_iload_n (q := 5) dX10_put_4 rfl rfl ?_
    by_cases hc : v1 < 0
    · rw [if_pos hc] at h
      refine ev_if_lt_t (q := 18) dX10_put_5 (by decide) hc ?_
      exact ev_weak _ (mLe_none (mLe_none (mLe_none mLe_nil))) (e_X10_put_J18 w _ h)
    · rw [if_neg hc] at h
      refine ev_if_lt_f (q := 8) (t0 := 18) dX10_put_5 (by decide) rfl hc ?_
      refine ev_iload_n (q := 9) dX10_put_8 rfl rfl ?_
      refine ev_aload_n (q := 10) dX10_put_9 rfl rfl ?_
      replace h := Option.bind_eq_some_iff.mp h; obtain ⟨r2, hr2, h⟩ := h
      refine ev_aN dX10_put_10 hr2 rfl ?_
      by_cases hc : r2 ≤ v1
      · rw [if_pos hc] at h
        refine ev_icmp_ge_t (q := 18) dX10_put_11 (by decide) hc ?_
        exact ev_weak _ (mLe_none (mLe_none (mLe_none mLe_nil))) (e_X10_put_J18 w _ h)
      · rw [if_neg hc] at h
        refine ev_icmp_ge_f (q := 14) (t0 := 18) dX10_put_11 (by decide) rfl hc ?_
        refine ev_aload_n (q := 15) dX10_put_14 rfl rfl ?_
        refine ev_iload_n (q := 16) dX10_put_15 rfl rfl ?_
        refine ev_iload_n (q := 17) dX10_put_16 rfl rfl ?_
        replace h := Option.bind_eq_some_iff.mp h; obtain ⟨w3, hw3, h⟩ := h
        refine ev_aS dX10_put_17 hw3 rfl ?_
        exact ev_weak _ (mLe_none (mLe_none (mLe_none mLe_nil))) (e_X10_put_J18 w3 _ h)
def f_X10_sum_L4 (v0 : Option Nat) (w : mW) : Nat → Int32 → Int32 → Option (Int32)
  | 0, _, _ => none
  | n + 1, v1, v2 => oC v0 (some (v1)) (fun a1 => Option.bind (aN w (some a1)) fun r2 => if r2 ≤ v2 then (some (v1)) else (Option.bind (aL w (some a1) v2) fun r3 => (f_X10_sum_L4 v0 w n) (v1 + r3) (v2 + (1 : Int32))))
set_option maxRecDepth 100000 in
set_option maxHeartbeats 4000000 in
theorem e_X10_sum_L4 {X : mXs} {r : Option mV} {w' : mW} (P : (Int32) → Prop) (v0 : Option Nat) (w : mW) (hexit : ∀ y, P y → mEv X M_X10_sum 0 r w' 26 [none, some (vi y), none] [] w) : ∀ (n : Nat) (v1 : Int32) (v2 : Int32) (e : Int32), f_X10_sum_L4 v0 w n v1 v2 = some e → P e → mEv X M_X10_sum 0 r w' 4 [some (vr v0), some (vi v1), some (vi v2)] [] w := by
  intro n
  induction n with
  | zero =>
    intro v1 v2 e h hP
    rw [f_X10_sum_L4] at h
    cases h
  | succ n hk =>
    intro v1 v2 e h hP
    rw [f_X10_sum_L4] at h
    refine ev_aload_n (q := 5) dX10_sum_4 rfl rfl ?_
    rcases v0 with _ | a1
    · dsimp only [oC] at h
      refine ev_ifnull_t (q := 26) dX10_sum_5 (by decide) ?_
      cases h
      exact ev_weak _ (mLe_none (mLe_some (mLe_none mLe_nil))) (hexit _ hP)
    · dsimp only [oC] at h
      refine ev_ifnull_f (q := 8) dX10_sum_5 rfl ?_
      refine ev_iload_n (q := 9) dX10_sum_8 rfl rfl ?_
      refine ev_aload_n (q := 10) dX10_sum_9 rfl rfl ?_
      replace h := Option.bind_eq_some_iff.mp h; obtain ⟨r2, hr2, h⟩ := h
      refine ev_aN dX10_sum_10 hr2 rfl ?_
      by_cases hc : r2 ≤ v2
      · rw [if_pos hc] at h
        refine ev_icmp_ge_t (q := 26) dX10_sum_11 (by decide) hc ?_
        cases h
        exact ev_weak _ (mLe_none (mLe_some (mLe_none mLe_nil))) (hexit _ hP)
      · rw [if_neg hc] at h
        refine ev_icmp_ge_f (q := 14) (t0 := 26) dX10_sum_11 (by decide) rfl hc ?_
        refine ev_iload_n (q := 15) dX10_sum_14 rfl rfl ?_
        refine ev_aload_n (q := 16) dX10_sum_15 rfl rfl ?_
        refine ev_iload_n (q := 17) dX10_sum_16 rfl rfl ?_
        replace h := Option.bind_eq_some_iff.mp h; obtain ⟨r3, hr3, h⟩ := h
        refine ev_aL dX10_sum_17 hr3 rfl ?_
        refine ev_iadd (q := 19) dX10_sum_18 rfl ?_
        refine ev_istore_n (q := 20) dX10_sum_19 rfl (by decide) ?_
        refine ev_iinc (q := 23) (v := v2 + (1 : Int32)) dX10_sum_20 rfl (by decide) rfl (by rfl) ?_
        refine ev_goto (q := 4) dX10_sum_23 (by decide) ?_
        exact ev_weak _ (mLe_some (mLe_some (mLe_some mLe_nil))) (hk (v1 + r3) (v2 + (1 : Int32)) _ h hP)
def f_X10_sum (v0 : Option Nat) (w : mW) : Option (Int32) := Option.bind (f_X10_sum_L4 v0 w mFuel (0 : Int32) (0 : Int32)) fun e4 => some (e4)
set_option maxRecDepth 100000 in
set_option maxHeartbeats 4000000 in
theorem met_X10_sum (v0 : Option Nat) (w : mW) (res : Int32) (h : f_X10_sum v0 w = some res) : mMet M_X10_sum 0 [vr v0] w (some (vi res)) w := by
  refine ev_met (n := 2) (by decide) rfl fun X => ?_
  unfold f_X10_sum at h
  show mEv X M_X10_sum 0 _ _ 0 [some (vr v0), none, none] [] w
  refine ev_iconst (q := 1) (v := (0 : Int32)) dX10_sum_0 rfl (by decide) ?_
  refine ev_istore_n (q := 2) dX10_sum_1 rfl (by decide) ?_
  refine ev_iconst (q := 3) (v := (0 : Int32)) dX10_sum_2 rfl (by decide) ?_
  refine ev_istore_n (q := 4) dX10_sum_3 rfl (by decide) ?_
  replace h := Option.bind_eq_some_iff.mp h; obtain ⟨e4, he4, h⟩ := h
  refine ev_weak _ (mLe_some (mLe_some (mLe_some mLe_nil))) (e_X10_sum_L4 (fun z => e4 = z) v0 w (fun e4q hq => ?_) mFuel (0 : Int32) (0 : Int32) _ he4 rfl)
  subst hq
  refine ev_iload_n (q := 27) dX10_sum_26 rfl rfl ?_
  cases h
  exact ev_iret dX10_sum_27 rfl rfl
def f_X10_tosserAt_J41 (s0 : Option Nat) (w : mW) : Option (Option Nat) := some (s0)
set_option maxRecDepth 100000 in
set_option maxHeartbeats 4000000 in
theorem e_X10_tosserAt_J41 {X : mXs} (s0 : Option Nat) (w : mW) (res : Option Nat) (h : f_X10_tosserAt_J41 s0 w = some res) : mEv X M_X10_tosserAt 0 (some (vr res)) w 41 [none, none, none] [vr s0] w := by
  unfold f_X10_tosserAt_J41 at h
  cases h
  exact ev_aret dX10_tosserAt_41 rfl
def f_X10_tosserAt_J26 (o : Nat) (v1 : Int32) (s0 : Int32) (w : mW) : Option (Option Nat) := if s0 = 0 then (f_X10_tosserAt_J41 none w) else (Option.bind (gR w (some o) 10 2) fun r1 => Option.bind (rL w r1 v1) fun r2 => f_X10_tosserAt_J41 r2 w)
set_option maxRecDepth 100000 in
set_option maxHeartbeats 4000000 in
theorem e_X10_tosserAt_J26 {X : mXs} (o : Nat) (v1 : Int32) (s0 : Int32) (w : mW) (res : Option Nat) (h : f_X10_tosserAt_J26 o v1 s0 w = some res) : mEv X M_X10_tosserAt 0 (some (vr res)) w 26 [some (vr ((some o))), some (vi v1), none] [vi s0] w := by
  unfold f_X10_tosserAt_J26 at h
  refine ev_istore_n (q := 27) dX10_tosserAt_26 rfl (by decide) ?_
  refine ev_iload_n (q := 28) dX10_tosserAt_27 rfl rfl ?_
  by_cases hc : s0 = 0
  · rw [if_pos hc] at h
    refine ev_if_eq_t (q := 40) dX10_tosserAt_28 (by decide) hc ?_
    refine ev_null (q := 41) dX10_tosserAt_40 rfl ?_
    exact ev_weak _ (mLe_none (mLe_none (mLe_none mLe_nil))) (e_X10_tosserAt_J41 none w _ h)
  · rw [if_neg hc] at h
    refine ev_if_eq_f (q := 31) (t0 := 40) dX10_tosserAt_28 (by decide) rfl hc ?_
    refine ev_aload_n (q := 32) dX10_tosserAt_31 rfl rfl ?_
    replace h := Option.bind_eq_some_iff.mp h; obtain ⟨r1, hr1, h⟩ := h
    refine ev_gR dX10_tosserAt_32 fl_X10_25 hr1 rfl ?_
    refine ev_iload_n (q := 36) dX10_tosserAt_35 rfl rfl ?_
    replace h := Option.bind_eq_some_iff.mp h; obtain ⟨r2, hr2, h⟩ := h
    refine ev_rL dX10_tosserAt_36 hr2 rfl ?_
    refine ev_goto (q := 41) dX10_tosserAt_37 (by decide) ?_
    exact ev_weak _ (mLe_none (mLe_none (mLe_none mLe_nil))) (e_X10_tosserAt_J41 r2 w _ h)
def f_X10_tosserAt_J25 (o : Nat) (v1 : Int32) (w : mW) : Option (Option Nat) := f_X10_tosserAt_J26 o v1 (0 : Int32) w
set_option maxRecDepth 100000 in
set_option maxHeartbeats 4000000 in
theorem e_X10_tosserAt_J25 {X : mXs} (o : Nat) (v1 : Int32) (w : mW) (res : Option Nat) (h : f_X10_tosserAt_J25 o v1 w = some res) : mEv X M_X10_tosserAt 0 (some (vr res)) w 25 [some (vr ((some o))), some (vi v1), none] [] w := by
  unfold f_X10_tosserAt_J25 at h
  refine ev_iconst (q := 26) (v := (0 : Int32)) dX10_tosserAt_25 rfl (by decide) ?_
  exact ev_weak _ (mLe_some (mLe_some (mLe_none mLe_nil))) (e_X10_tosserAt_J26 o v1 (0 : Int32) w _ h)
def f_X10_tosserAt (o : Nat) (v1 : Int32) (w : mW) : Option (Option Nat) := if v1 < 0 then (f_X10_tosserAt_J25 o v1 w) else (Option.bind (gI w (some o) 10 8) fun r3 => if r3 ≤ v1 then (f_X10_tosserAt_J25 o v1 w) else (Option.bind (gR w (some o) 10 2) fun r4 => Option.bind (rN w r4) fun r5 => if r5 ≤ v1 then (f_X10_tosserAt_J25 o v1 w) else (f_X10_tosserAt_J26 o v1 (1 : Int32) w)))
set_option maxRecDepth 100000 in
set_option maxHeartbeats 4000000 in
theorem met_X10_tosserAt (o : Nat) (v1 : Int32) (w : mW) (res : Option Nat) (h : f_X10_tosserAt o v1 w = some res) : mMet M_X10_tosserAt 0 [vr ((some o)), vi v1] w (some (vr res)) w := by
  refine ev_met (n := 1) (by decide) rfl fun X => ?_
  unfold f_X10_tosserAt at h
  show mEv X M_X10_tosserAt 0 _ _ 0 [some (vr ((some o))), some (vi v1), none] [] w
  refine ev_iload_n (q := 1) dX10_tosserAt_0 rfl rfl ?_
  by_cases hc : v1 < 0
  · rw [if_pos hc] at h
    refine ev_if_lt_t (q := 25) dX10_tosserAt_1 (by decide) hc ?_
    exact ev_weak _ (mLe_some (mLe_some (mLe_none mLe_nil))) (e_X10_tosserAt_J25 o v1 w _ h)
  · rw [if_neg hc] at h
    refine ev_if_lt_f (q := 4) (t0 := 25) dX10_tosserAt_1 (by decide) rfl hc ?_
    refine ev_iload_n (q := 5) dX10_tosserAt_4 rfl rfl ?_
    refine ev_aload_n (q := 6) dX10_tosserAt_5 rfl rfl ?_
    replace h := Option.bind_eq_some_iff.mp h; obtain ⟨r3, hr3, h⟩ := h
    refine ev_gI dX10_tosserAt_6 fl_X10_197 hr3 rfl ?_
    by_cases hc : r3 ≤ v1
    · rw [if_pos hc] at h
      refine ev_icmp_ge_t (q := 25) dX10_tosserAt_9 (by decide) hc ?_
      exact ev_weak _ (mLe_some (mLe_some (mLe_none mLe_nil))) (e_X10_tosserAt_J25 o v1 w _ h)
    · rw [if_neg hc] at h
      refine ev_icmp_ge_f (q := 12) (t0 := 25) dX10_tosserAt_9 (by decide) rfl hc ?_
      refine ev_iload_n (q := 13) dX10_tosserAt_12 rfl rfl ?_
      refine ev_aload_n (q := 14) dX10_tosserAt_13 rfl rfl ?_
      replace h := Option.bind_eq_some_iff.mp h; obtain ⟨r4, hr4, h⟩ := h
      refine ev_gR dX10_tosserAt_14 fl_X10_25 hr4 rfl ?_
      replace h := Option.bind_eq_some_iff.mp h; obtain ⟨r5, hr5, h⟩ := h
      refine ev_rN dX10_tosserAt_17 hr5 rfl ?_
      by_cases hc : r5 ≤ v1
      · rw [if_pos hc] at h
        refine ev_icmp_ge_t (q := 25) dX10_tosserAt_18 (by decide) hc ?_
        exact ev_weak _ (mLe_some (mLe_some (mLe_none mLe_nil))) (e_X10_tosserAt_J25 o v1 w _ h)
      · rw [if_neg hc] at h
        refine ev_icmp_ge_f (q := 21) (t0 := 25) dX10_tosserAt_18 (by decide) rfl hc ?_
        refine ev_iconst (q := 22) (v := (1 : Int32)) dX10_tosserAt_21 rfl (by decide) ?_
        refine ev_goto (q := 26) dX10_tosserAt_22 (by decide) ?_
        exact ev_weak _ (mLe_some (mLe_some (mLe_none mLe_nil))) (e_X10_tosserAt_J26 o v1 (1 : Int32) w _ h)
def f_X0_batter (o : Nat) (w : mW) : Option (Int32) := some ((2 : Int32))
set_option maxRecDepth 100000 in
set_option maxHeartbeats 4000000 in
theorem met_X0_batter (o : Nat) (w : mW) (res : Int32) (h : f_X0_batter o w = some res) : mMet M_X0_batter 0 [vr ((some o))] w (some (vi res)) w := by
  refine ev_met (n := 0) (by decide) rfl fun X => ?_
  unfold f_X0_batter at h
  show mEv X M_X0_batter 0 _ _ 0 [some (vr ((some o)))] [] w
  refine ev_iconst (q := 1) (v := (2 : Int32)) dX0_batter_0 rfl (by decide) ?_
  cases h
  exact ev_iret dX0_batter_1 rfl rfl
def f_X0_kind (o : Nat) (w : mW) : Option (Int32) := some ((1 : Int32))
set_option maxRecDepth 100000 in
set_option maxHeartbeats 4000000 in
theorem met_X0_kind (o : Nat) (w : mW) (res : Int32) (h : f_X0_kind o w = some res) : mMet M_X0_kind 0 [vr ((some o))] w (some (vi res)) w := by
  refine ev_met (n := 0) (by decide) rfl fun X => ?_
  unfold f_X0_kind at h
  show mEv X M_X0_kind 0 _ _ 0 [some (vr ((some o)))] [] w
  refine ev_iconst (q := 1) (v := (1 : Int32)) dX0_kind_0 rfl (by decide) ?_
  cases h
  exact ev_iret dX0_kind_1 rfl rfl
def f_X1_batter (o : Nat) (w : mW) : Option (Int32) := some ((4 : Int32))
set_option maxRecDepth 100000 in
set_option maxHeartbeats 4000000 in
theorem met_X1_batter (o : Nat) (w : mW) (res : Int32) (h : f_X1_batter o w = some res) : mMet M_X1_batter 0 [vr ((some o))] w (some (vi res)) w := by
  refine ev_met (n := 0) (by decide) rfl fun X => ?_
  unfold f_X1_batter at h
  show mEv X M_X1_batter 0 _ _ 0 [some (vr ((some o)))] [] w
  refine ev_iconst (q := 1) (v := (4 : Int32)) dX1_batter_0 rfl (by decide) ?_
  cases h
  exact ev_iret dX1_batter_1 rfl rfl
def f_X1_kind (o : Nat) (w : mW) : Option (Int32) := some ((4 : Int32))
set_option maxRecDepth 100000 in
set_option maxHeartbeats 4000000 in
theorem met_X1_kind (o : Nat) (w : mW) (res : Int32) (h : f_X1_kind o w = some res) : mMet M_X1_kind 0 [vr ((some o))] w (some (vi res)) w := by
  refine ev_met (n := 0) (by decide) rfl fun X => ?_
  unfold f_X1_kind at h
  show mEv X M_X1_kind 0 _ _ 0 [some (vr ((some o)))] [] w
  refine ev_iconst (q := 1) (v := (4 : Int32)) dX1_kind_0 rfl (by decide) ?_
  cases h
  exact ev_iret dX1_kind_1 rfl rfl
def f_X5_isWhole_J14 (s0 : Int32) (w : mW) : Option (Int32) := if s0 = 0 ∨ s0 = 1 then some (s0) else none
set_option maxRecDepth 100000 in
set_option maxHeartbeats 4000000 in
theorem e_X5_isWhole_J14 {X : mXs} (s0 : Int32) (w : mW) (res : Int32) (h : f_X5_isWhole_J14 s0 w = some res) : mEv X M_X5_isWhole 0 (some (vi res)) w 14 [none] [vi s0] w := by
  unfold f_X5_isWhole_J14 at h
  by_cases hz : s0 = 0 ∨ s0 = 1
  · rw [if_pos hz] at h
    cases h
    exact ev_zret dX5_isWhole_14 rfl hz
  · rw [if_neg hz] at h
    cases h
def f_X5_isWhole (o : Nat) (w : mW) : Option (Int32) := Option.bind (gI w (some o) 5 7) fun r1 => if r1 = (6 : Int32) then (f_X5_isWhole_J14 (1 : Int32) w) else (f_X5_isWhole_J14 (0 : Int32) w)
set_option maxRecDepth 100000 in
set_option maxHeartbeats 4000000 in
theorem met_X5_isWhole (o : Nat) (w : mW) (res : Int32) (h : f_X5_isWhole o w = some res) : mMet M_X5_isWhole 0 [vr ((some o))] w (some (vi res)) w := by
  refine ev_met (n := 0) (by decide) rfl fun X => ?_
  unfold f_X5_isWhole at h
  show mEv X M_X5_isWhole 0 _ _ 0 [some (vr ((some o)))] [] w
  refine ev_aload_n (q := 1) dX5_isWhole_0 rfl rfl ?_
  replace h := Option.bind_eq_some_iff.mp h; obtain ⟨r1, hr1, h⟩ := h
  refine ev_gI dX5_isWhole_1 fl_X5_31 hr1 rfl ?_
  refine ev_bipush (q := 6) (v := (6 : Int32)) dX5_isWhole_4 rfl (by decide) ?_
  by_cases hc : r1 = (6 : Int32)
  · rw [if_pos hc] at h
    refine ev_icmp_ne_f (q := 9) (t0 := 13) dX5_isWhole_6 (by decide) rfl hc ?_
    refine ev_iconst (q := 10) (v := (1 : Int32)) dX5_isWhole_9 rfl (by decide) ?_
    refine ev_goto (q := 14) dX5_isWhole_10 (by decide) ?_
    exact ev_weak _ (mLe_none mLe_nil) (e_X5_isWhole_J14 (1 : Int32) w _ h)
  · rw [if_neg hc] at h
    refine ev_icmp_ne_t (q := 13) dX5_isWhole_6 (by decide) hc ?_
    refine ev_iconst (q := 14) (v := (0 : Int32)) dX5_isWhole_13 rfl (by decide) ?_
    exact ev_weak _ (mLe_none mLe_nil) (e_X5_isWhole_J14 (0 : Int32) w _ h)
def f_X5_takesAfterSleeper_J41 (s0 : Int32) (w : mW) : Option (Int32 × mW) := if s0 = 0 ∨ s0 = 1 then some ((s0, w)) else none
set_option maxRecDepth 100000 in
set_option maxHeartbeats 4000000 in
theorem e_X5_takesAfterSleeper_J41 {X : mXs} (s0 : Int32) (w : mW) (res : Int32 × mW) (h : f_X5_takesAfterSleeper_J41 s0 w = some res) : mEv X M_X5_takesAfterSleeper 0 (some (vi res.1)) res.2 41 [none, none] [vi s0] w := by
  unfold f_X5_takesAfterSleeper_J41 at h
  by_cases hz : s0 = 0 ∨ s0 = 1
  · rw [if_pos hz] at h
    cases h
    exact ev_zret dX5_takesAfterSleeper_41 rfl hz
  · rw [if_neg hz] at h
    cases h
def f_X5_takesAfterSleeper_J40 (w : mW) : Option (Int32 × mW) := f_X5_takesAfterSleeper_J41 (0 : Int32) w
set_option maxRecDepth 100000 in
set_option maxHeartbeats 4000000 in
theorem e_X5_takesAfterSleeper_J40 {X : mXs} (w : mW) (res : Int32 × mW) (h : f_X5_takesAfterSleeper_J40 w = some res) : mEv X M_X5_takesAfterSleeper 0 (some (vi res.1)) res.2 40 [none, none] [] w := by
  unfold f_X5_takesAfterSleeper_J40 at h
  refine ev_iconst (q := 41) (v := (0 : Int32)) dX5_takesAfterSleeper_40 rfl (by decide) ?_
  exact ev_weak _ (mLe_none (mLe_none mLe_nil)) (e_X5_takesAfterSleeper_J41 (0 : Int32) w _ h)
def f_X5_takesAfterSleeper_J36 (w : mW) : Option (Int32 × mW) := f_X5_takesAfterSleeper_J41 (1 : Int32) w
set_option maxRecDepth 100000 in
set_option maxHeartbeats 4000000 in
theorem e_X5_takesAfterSleeper_J36 {X : mXs} (w : mW) (res : Int32 × mW) (h : f_X5_takesAfterSleeper_J36 w = some res) : mEv X M_X5_takesAfterSleeper 0 (some (vi res.1)) res.2 36 [none, none] [] w := by
  unfold f_X5_takesAfterSleeper_J36 at h
  refine ev_iconst (q := 37) (v := (1 : Int32)) dX5_takesAfterSleeper_36 rfl (by decide) ?_
  refine ev_goto (q := 41) dX5_takesAfterSleeper_37 (by decide) ?_
  exact ev_weak _ (mLe_none (mLe_none mLe_nil)) (e_X5_takesAfterSleeper_J41 (1 : Int32) w _ h)
def f_X5_takesAfterSleeper_J12 (o : Nat) (v1 : Int32) (s0 : Option Nat) (s1 : Int32) (w : mW) : Option (Int32 × mW) := Option.bind (pI w s0 5 7 s1) fun w1 => if v1 = (59 : Int32) then (f_X5_takesAfterSleeper_J36 w1) else (if v1 = (44 : Int32) then (Option.bind (gI w1 (some o) 5 4) fun r2 => if (6 : Int32) ≤ r2 then (f_X5_takesAfterSleeper_J40 w1) else (f_X5_takesAfterSleeper_J36 w1)) else (f_X5_takesAfterSleeper_J40 w1))
set_option maxRecDepth 100000 in
set_option maxHeartbeats 4000000 in
theorem e_X5_takesAfterSleeper_J12 {X : mXs} (o : Nat) (v1 : Int32) (s0 : Option Nat) (s1 : Int32) (w : mW) (res : Int32 × mW) (h : f_X5_takesAfterSleeper_J12 o v1 s0 s1 w = some res) : mEv X M_X5_takesAfterSleeper 0 (some (vi res.1)) res.2 12 [some (vr ((some o))), some (vi v1)] [vi s1, vr s0] w := by
  unfold f_X5_takesAfterSleeper_J12 at h
  replace h := Option.bind_eq_some_iff.mp h; obtain ⟨w1, hw1, h⟩ := h
  refine ev_pI dX5_takesAfterSleeper_12 fp_X5_31 hw1 rfl ?_
  refine ev_iload_n (q := 16) dX5_takesAfterSleeper_15 rfl rfl ?_
  refine ev_bipush (q := 18) (v := (59 : Int32)) dX5_takesAfterSleeper_16 rfl (by decide) ?_
  by_cases hc : v1 = (59 : Int32)
  · rw [if_pos hc] at h
    refine ev_icmp_eq_t (q := 36) dX5_takesAfterSleeper_18 (by decide) hc ?_
    exact ev_weak _ (mLe_none (mLe_none mLe_nil)) (e_X5_takesAfterSleeper_J36 w1 _ h)
  · rw [if_neg hc] at h
    refine ev_icmp_eq_f (q := 21) (t0 := 36) dX5_takesAfterSleeper_18 (by decide) rfl hc ?_
    refine ev_iload_n (q := 22) dX5_takesAfterSleeper_21 rfl rfl ?_
    refine ev_bipush (q := 24) (v := (44 : Int32)) dX5_takesAfterSleeper_22 rfl (by decide) ?_
    by_cases hc : v1 = (44 : Int32)
    · rw [if_pos hc] at h
      refine ev_icmp_ne_f (q := 27) (t0 := 40) dX5_takesAfterSleeper_24 (by decide) rfl hc ?_
      refine ev_aload_n (q := 28) dX5_takesAfterSleeper_27 rfl rfl ?_
      replace h := Option.bind_eq_some_iff.mp h; obtain ⟨r2, hr2, h⟩ := h
      refine ev_gI dX5_takesAfterSleeper_28 fl_X5_24 hr2 rfl ?_
      refine ev_bipush (q := 33) (v := (6 : Int32)) dX5_takesAfterSleeper_31 rfl (by decide) ?_
      by_cases hc : (6 : Int32) ≤ r2
      · rw [if_pos hc] at h
        refine ev_icmp_ge_t (q := 40) dX5_takesAfterSleeper_33 (by decide) hc ?_
        exact ev_weak _ (mLe_none (mLe_none mLe_nil)) (e_X5_takesAfterSleeper_J40 w1 _ h)
      · rw [if_neg hc] at h
        refine ev_icmp_ge_f (q := 36) (t0 := 40) dX5_takesAfterSleeper_33 (by decide) rfl hc ?_
        exact ev_weak _ (mLe_none (mLe_none mLe_nil)) (e_X5_takesAfterSleeper_J36 w1 _ h)
    · rw [if_neg hc] at h
      refine ev_icmp_ne_t (q := 40) dX5_takesAfterSleeper_24 (by decide) hc ?_
      exact ev_weak _ (mLe_none (mLe_none mLe_nil)) (e_X5_takesAfterSleeper_J40 w1 _ h)
def f_X5_takesAfterSleeper (o : Nat) (v1 : Int32) (w : mW) : Option (Int32 × mW) := if v1 = (59 : Int32) then (f_X5_takesAfterSleeper_J12 o v1 (some o) (3 : Int32) w) else (f_X5_takesAfterSleeper_J12 o v1 (some o) (0 : Int32) w)
set_option maxRecDepth 100000 in
set_option maxHeartbeats 4000000 in
theorem met_X5_takesAfterSleeper (o : Nat) (v1 : Int32) (w : mW) (res : Int32 × mW) (h : f_X5_takesAfterSleeper o v1 w = some res) : mMet M_X5_takesAfterSleeper 0 [vr ((some o)), vi v1] w (some (vi res.1)) res.2 := by
  refine ev_met (n := 0) (by decide) rfl fun X => ?_
  unfold f_X5_takesAfterSleeper at h
  show mEv X M_X5_takesAfterSleeper 0 _ _ 0 [some (vr ((some o))), some (vi v1)] [] w
  refine ev_aload_n (q := 1) dX5_takesAfterSleeper_0 rfl rfl ?_
  refine ev_iload_n (q := 2) dX5_takesAfterSleeper_1 rfl rfl ?_
  refine ev_bipush (q := 4) (v := (59 : Int32)) dX5_takesAfterSleeper_2 rfl (by decide) ?_
  by_cases hc : v1 = (59 : Int32)
  · rw [if_pos hc] at h
    refine ev_icmp_ne_f (q := 7) (t0 := 11) dX5_takesAfterSleeper_4 (by decide) rfl hc ?_
    refine ev_iconst (q := 8) (v := (3 : Int32)) dX5_takesAfterSleeper_7 rfl (by decide) ?_
    refine ev_goto (q := 12) dX5_takesAfterSleeper_8 (by decide) ?_
    exact ev_weak _ (mLe_some (mLe_some mLe_nil)) (e_X5_takesAfterSleeper_J12 o v1 (some o) (3 : Int32) w _ h)
  · rw [if_neg hc] at h
    refine ev_icmp_ne_t (q := 11) dX5_takesAfterSleeper_4 (by decide) hc ?_
    refine ev_iconst (q := 12) (v := (0 : Int32)) dX5_takesAfterSleeper_11 rfl (by decide) ?_
    exact ev_weak _ (mLe_some (mLe_some mLe_nil)) (e_X5_takesAfterSleeper_J12 o v1 (some o) (0 : Int32) w _ h)
def f_X5_takesAfterTosser_J24 (s0 : Int32) (w : mW) : Option (Int32 × mW) := if s0 = 0 ∨ s0 = 1 then some ((s0, w)) else none
set_option maxRecDepth 100000 in
set_option maxHeartbeats 4000000 in
theorem e_X5_takesAfterTosser_J24 {X : mXs} (s0 : Int32) (w : mW) (res : Int32 × mW) (h : f_X5_takesAfterTosser_J24 s0 w = some res) : mEv X M_X5_takesAfterTosser 0 (some (vi res.1)) res.2 24 [none, none] [vi s0] w := by
  unfold f_X5_takesAfterTosser_J24 at h
  by_cases hz : s0 = 0 ∨ s0 = 1
  · rw [if_pos hz] at h
    cases h
    exact ev_zret dX5_takesAfterTosser_24 rfl hz
  · rw [if_neg hz] at h
    cases h
def f_X5_takesAfterTosser_J23 (w : mW) : Option (Int32 × mW) := f_X5_takesAfterTosser_J24 (0 : Int32) w
set_option maxRecDepth 100000 in
set_option maxHeartbeats 4000000 in
theorem e_X5_takesAfterTosser_J23 {X : mXs} (w : mW) (res : Int32 × mW) (h : f_X5_takesAfterTosser_J23 w = some res) : mEv X M_X5_takesAfterTosser 0 (some (vi res.1)) res.2 23 [none, none] [] w := by
  unfold f_X5_takesAfterTosser_J23 at h
  refine ev_iconst (q := 24) (v := (0 : Int32)) dX5_takesAfterTosser_23 rfl (by decide) ?_
  exact ev_weak _ (mLe_none (mLe_none mLe_nil)) (e_X5_takesAfterTosser_J24 (0 : Int32) w _ h)
def f_X5_takesAfterTosser (o : Nat) (v1 : Int32) (w : mW) : Option (Int32 × mW) := Option.bind (pI w (some o) 5 7 (3 : Int32)) fun w1 => if v1 = (44 : Int32) then (Option.bind (gI w1 (some o) 5 5) fun r2 => if (4 : Int32) ≤ r2 then (f_X5_takesAfterTosser_J23 w1) else (f_X5_takesAfterTosser_J24 (1 : Int32) w1)) else (f_X5_takesAfterTosser_J23 w1)
set_option maxRecDepth 100000 in
set_option maxHeartbeats 4000000 in
theorem met_X5_takesAfterTosser (o : Nat) (v1 : Int32) (w : mW) (res : Int32 × mW) (h : f_X5_takesAfterTosser o v1 w = some res) : mMet M_X5_takesAfterTosser 0 [vr ((some o)), vi v1] w (some (vi res.1)) res.2 := by
  refine ev_met (n := 0) (by decide) rfl fun X => ?_
  unfold f_X5_takesAfterTosser at h
  show mEv X M_X5_takesAfterTosser 0 _ _ 0 [some (vr ((some o))), some (vi v1)] [] w
  refine ev_aload_n (q := 1) dX5_takesAfterTosser_0 rfl rfl ?_
  refine ev_iconst (q := 2) (v := (3 : Int32)) dX5_takesAfterTosser_1 rfl (by decide) ?_
  replace h := Option.bind_eq_some_iff.mp h; obtain ⟨w1, hw1, h⟩ := h
  refine ev_pI dX5_takesAfterTosser_2 fp_X5_31 hw1 rfl ?_
  refine ev_iload_n (q := 6) dX5_takesAfterTosser_5 rfl rfl ?_
  refine ev_bipush (q := 8) (v := (44 : Int32)) dX5_takesAfterTosser_6 rfl (by decide) ?_
  by_cases hc : v1 = (44 : Int32)
  · rw [if_pos hc] at h
    refine ev_icmp_ne_f (q := 11) (t0 := 23) dX5_takesAfterTosser_8 (by decide) rfl hc ?_
    refine ev_aload_n (q := 12) dX5_takesAfterTosser_11 rfl rfl ?_
    replace h := Option.bind_eq_some_iff.mp h; obtain ⟨r2, hr2, h⟩ := h
    refine ev_gI dX5_takesAfterTosser_12 fl_X5_28 hr2 rfl ?_
    refine ev_iconst (q := 16) (v := (4 : Int32)) dX5_takesAfterTosser_15 rfl (by decide) ?_
    by_cases hc : (4 : Int32) ≤ r2
    · rw [if_pos hc] at h
      refine ev_icmp_ge_t (q := 23) dX5_takesAfterTosser_16 (by decide) hc ?_
      exact ev_weak _ (mLe_none (mLe_none mLe_nil)) (e_X5_takesAfterTosser_J23 w1 _ h)
    · rw [if_neg hc] at h
      refine ev_icmp_ge_f (q := 19) (t0 := 23) dX5_takesAfterTosser_16 (by decide) rfl hc ?_
      refine ev_iconst (q := 20) (v := (1 : Int32)) dX5_takesAfterTosser_19 rfl (by decide) ?_
      refine ev_goto (q := 24) dX5_takesAfterTosser_20 (by decide) ?_
      exact ev_weak _ (mLe_none (mLe_none mLe_nil)) (e_X5_takesAfterTosser_J24 (1 : Int32) w1 _ h)
  · rw [if_neg hc] at h
    refine ev_icmp_ne_t (q := 23) dX5_takesAfterTosser_8 (by decide) hc ?_
    exact ev_weak _ (mLe_none (mLe_none mLe_nil)) (e_X5_takesAfterTosser_J23 w1 _ h)
def f_X5_takesRow_J25 (s0 : Int32) (w : mW) : Option (Int32 × mW) := if s0 = 0 ∨ s0 = 1 then some ((s0, w)) else none
set_option maxRecDepth 100000 in
set_option maxHeartbeats 4000000 in
theorem e_X5_takesRow_J25 {X : mXs} (s0 : Int32) (w : mW) (res : Int32 × mW) (h : f_X5_takesRow_J25 s0 w = some res) : mEv X M_X5_takesRow 0 (some (vi res.1)) res.2 25 [none, none] [vi s0] w := by
  unfold f_X5_takesRow_J25 at h
  by_cases hz : s0 = 0 ∨ s0 = 1
  · rw [if_pos hz] at h
    cases h
    exact ev_zret dX5_takesRow_25 rfl hz
  · rw [if_neg hz] at h
    cases h
def f_X5_takesRow_J24 (w : mW) : Option (Int32 × mW) := f_X5_takesRow_J25 (0 : Int32) w
set_option maxRecDepth 100000 in
set_option maxHeartbeats 4000000 in
theorem e_X5_takesRow_J24 {X : mXs} (w : mW) (res : Int32 × mW) (h : f_X5_takesRow_J24 w = some res) : mEv X M_X5_takesRow 0 (some (vi res.1)) res.2 24 [none, none] [] w := by
  unfold f_X5_takesRow_J24 at h
  refine ev_iconst (q := 25) (v := (0 : Int32)) dX5_takesRow_24 rfl (by decide) ?_
  exact ev_weak _ (mLe_none (mLe_none mLe_nil)) (e_X5_takesRow_J25 (0 : Int32) w _ h)
def f_X5_takesRow (o : Nat) (v1 : Int32) (w : mW) : Option (Int32 × mW) := Option.bind (pI w (some o) 5 6 v1) fun w1 => Option.bind (pI w1 (some o) 5 7 (1 : Int32)) fun w2 => if v1 < 0 then (f_X5_takesRow_J24 w2) else (if (6 : Int32) ≤ v1 then (f_X5_takesRow_J24 w2) else (f_X5_takesRow_J25 (1 : Int32) w2))
set_option maxRecDepth 100000 in
set_option maxHeartbeats 4000000 in
theorem met_X5_takesRow (o : Nat) (v1 : Int32) (w : mW) (res : Int32 × mW) (h : f_X5_takesRow o v1 w = some res) : mMet M_X5_takesRow 0 [vr ((some o)), vi v1] w (some (vi res.1)) res.2 := by
  refine ev_met (n := 0) (by decide) rfl fun X => ?_
  unfold f_X5_takesRow at h
  show mEv X M_X5_takesRow 0 _ _ 0 [some (vr ((some o))), some (vi v1)] [] w
  refine ev_aload_n (q := 1) dX5_takesRow_0 rfl rfl ?_
  refine ev_iload_n (q := 2) dX5_takesRow_1 rfl rfl ?_
  replace h := Option.bind_eq_some_iff.mp h; obtain ⟨w1, hw1, h⟩ := h
  refine ev_pI dX5_takesRow_2 fp_X5_71 hw1 rfl ?_
  refine ev_aload_n (q := 6) dX5_takesRow_5 rfl rfl ?_
  refine ev_iconst (q := 7) (v := (1 : Int32)) dX5_takesRow_6 rfl (by decide) ?_
  replace h := Option.bind_eq_some_iff.mp h; obtain ⟨w2, hw2, h⟩ := h
  refine ev_pI dX5_takesRow_7 fp_X5_31 hw2 rfl ?_
  refine ev_iload_n (q := 11) dX5_takesRow_10 rfl rfl ?_
  by_cases hc : v1 < 0
  · rw [if_pos hc] at h
    refine ev_if_lt_t (q := 24) dX5_takesRow_11 (by decide) hc ?_
    exact ev_weak _ (mLe_none (mLe_none mLe_nil)) (e_X5_takesRow_J24 w2 _ h)
  · rw [if_neg hc] at h
    refine ev_if_lt_f (q := 14) (t0 := 24) dX5_takesRow_11 (by decide) rfl hc ?_
    refine ev_iload_n (q := 15) dX5_takesRow_14 rfl rfl ?_
    refine ev_bipush (q := 17) (v := (6 : Int32)) dX5_takesRow_15 rfl (by decide) ?_
    by_cases hc : (6 : Int32) ≤ v1
    · rw [if_pos hc] at h
      refine ev_icmp_ge_t (q := 24) dX5_takesRow_17 (by decide) hc ?_
      exact ev_weak _ (mLe_none (mLe_none mLe_nil)) (e_X5_takesRow_J24 w2 _ h)
    · rw [if_neg hc] at h
      refine ev_icmp_ge_f (q := 20) (t0 := 24) dX5_takesRow_17 (by decide) rfl hc ?_
      refine ev_iconst (q := 21) (v := (1 : Int32)) dX5_takesRow_20 rfl (by decide) ?_
      refine ev_goto (q := 25) dX5_takesRow_21 (by decide) ?_
      exact ev_weak _ (mLe_none (mLe_none mLe_nil)) (e_X5_takesRow_J25 (1 : Int32) w2 _ h)
def f_X7_batter (o : Nat) (w : mW) : Option (Int32) := some ((1 : Int32))
set_option maxRecDepth 100000 in
set_option maxHeartbeats 4000000 in
theorem met_X7_batter (o : Nat) (w : mW) (res : Int32) (h : f_X7_batter o w = some res) : mMet M_X7_batter 0 [vr ((some o))] w (some (vi res)) w := by
  refine ev_met (n := 0) (by decide) rfl fun X => ?_
  unfold f_X7_batter at h
  show mEv X M_X7_batter 0 _ _ 0 [some (vr ((some o)))] [] w
  refine ev_iconst (q := 1) (v := (1 : Int32)) dX7_batter_0 rfl (by decide) ?_
  cases h
  exact ev_iret dX7_batter_1 rfl rfl
def f_X7_kind (o : Nat) (w : mW) : Option (Int32) := some ((3 : Int32))
set_option maxRecDepth 100000 in
set_option maxHeartbeats 4000000 in
theorem met_X7_kind (o : Nat) (w : mW) (res : Int32) (h : f_X7_kind o w = some res) : mMet M_X7_kind 0 [vr ((some o))] w (some (vi res)) w := by
  refine ev_met (n := 0) (by decide) rfl fun X => ?_
  unfold f_X7_kind at h
  show mEv X M_X7_kind 0 _ _ 0 [some (vr ((some o)))] [] w
  refine ev_iconst (q := 1) (v := (3 : Int32)) dX7_kind_0 rfl (by decide) ?_
  cases h
  exact ev_iret dX7_kind_1 rfl rfl
def f_X8_batter (o : Nat) (w : mW) : Option (Int32) := some ((3 : Int32))
set_option maxRecDepth 100000 in
set_option maxHeartbeats 4000000 in
theorem met_X8_batter (o : Nat) (w : mW) (res : Int32) (h : f_X8_batter o w = some res) : mMet M_X8_batter 0 [vr ((some o))] w (some (vi res)) w := by
  refine ev_met (n := 0) (by decide) rfl fun X => ?_
  unfold f_X8_batter at h
  show mEv X M_X8_batter 0 _ _ 0 [some (vr ((some o)))] [] w
  refine ev_iconst (q := 1) (v := (3 : Int32)) dX8_batter_0 rfl (by decide) ?_
  cases h
  exact ev_iret dX8_batter_1 rfl rfl
def f_X8_kind (o : Nat) (w : mW) : Option (Int32) := some ((0 : Int32))
set_option maxRecDepth 100000 in
set_option maxHeartbeats 4000000 in
theorem met_X8_kind (o : Nat) (w : mW) (res : Int32) (h : f_X8_kind o w = some res) : mMet M_X8_kind 0 [vr ((some o))] w (some (vi res)) w := by
  refine ev_met (n := 0) (by decide) rfl fun X => ?_
  unfold f_X8_kind at h
  show mEv X M_X8_kind 0 _ _ 0 [some (vr ((some o)))] [] w
  refine ev_iconst (q := 1) (v := (0 : Int32)) dX8_kind_0 rfl (by decide) ?_
  cases h
  exact ev_iret dX8_kind_1 rfl rfl
def f_X9_batter (o : Nat) (w : mW) : Option (Int32) := some ((5 : Int32))
set_option maxRecDepth 100000 in
set_option maxHeartbeats 4000000 in
theorem met_X9_batter (o : Nat) (w : mW) (res : Int32) (h : f_X9_batter o w = some res) : mMet M_X9_batter 0 [vr ((some o))] w (some (vi res)) w := by
  refine ev_met (n := 0) (by decide) rfl fun X => ?_
  unfold f_X9_batter at h
  show mEv X M_X9_batter 0 _ _ 0 [some (vr ((some o)))] [] w
  refine ev_iconst (q := 1) (v := (5 : Int32)) dX9_batter_0 rfl (by decide) ?_
  cases h
  exact ev_iret dX9_batter_1 rfl rfl
def f_X9_kind (o : Nat) (w : mW) : Option (Int32) := some ((2 : Int32))
set_option maxRecDepth 100000 in
set_option maxHeartbeats 4000000 in
theorem met_X9_kind (o : Nat) (w : mW) (res : Int32) (h : f_X9_kind o w = some res) : mMet M_X9_kind 0 [vr ((some o))] w (some (vi res)) w := by
  refine ev_met (n := 0) (by decide) rfl fun X => ?_
  unfold f_X9_kind at h
  show mEv X M_X9_kind 0 _ _ 0 [some (vr ((some o)))] [] w
  refine ev_iconst (q := 1) (v := (2 : Int32)) dX9_kind_0 rfl (by decide) ?_
  cases h
  exact ev_iret dX9_kind_1 rfl rfl
def f_J6_bitCount_0f7a4 (v0 : Int32) (w : mW) : Option (Int32) := some ((((((((v0 - (((v0.toUInt32 >>> ((1 : Int32).toUInt32 &&& Int32.toUInt32 31)).toInt32) &&& (1431655765 : Int32))) &&& (858993459 : Int32)) + ((((v0 - (((v0.toUInt32 >>> ((1 : Int32).toUInt32 &&& Int32.toUInt32 31)).toInt32) &&& (1431655765 : Int32))).toUInt32 >>> ((2 : Int32).toUInt32 &&& Int32.toUInt32 31)).toInt32) &&& (858993459 : Int32))) + (((((v0 - (((v0.toUInt32 >>> ((1 : Int32).toUInt32 &&& Int32.toUInt32 31)).toInt32) &&& (1431655765 : Int32))) &&& (858993459 : Int32)) + ((((v0 - (((v0.toUInt32 >>> ((1 : Int32).toUInt32 &&& Int32.toUInt32 31)).toInt32) &&& (1431655765 : Int32))).toUInt32 >>> ((2 : Int32).toUInt32 &&& Int32.toUInt32 31)).toInt32) &&& (858993459 : Int32))).toUInt32 >>> ((4 : Int32).toUInt32 &&& Int32.toUInt32 31)).toInt32)) &&& (252645135 : Int32)) + (((((((v0 - (((v0.toUInt32 >>> ((1 : Int32).toUInt32 &&& Int32.toUInt32 31)).toInt32) &&& (1431655765 : Int32))) &&& (858993459 : Int32)) + ((((v0 - (((v0.toUInt32 >>> ((1 : Int32).toUInt32 &&& Int32.toUInt32 31)).toInt32) &&& (1431655765 : Int32))).toUInt32 >>> ((2 : Int32).toUInt32 &&& Int32.toUInt32 31)).toInt32) &&& (858993459 : Int32))) + (((((v0 - (((v0.toUInt32 >>> ((1 : Int32).toUInt32 &&& Int32.toUInt32 31)).toInt32) &&& (1431655765 : Int32))) &&& (858993459 : Int32)) + ((((v0 - (((v0.toUInt32 >>> ((1 : Int32).toUInt32 &&& Int32.toUInt32 31)).toInt32) &&& (1431655765 : Int32))).toUInt32 >>> ((2 : Int32).toUInt32 &&& Int32.toUInt32 31)).toInt32) &&& (858993459 : Int32))).toUInt32 >>> ((4 : Int32).toUInt32 &&& Int32.toUInt32 31)).toInt32)) &&& (252645135 : Int32)).toUInt32 >>> ((8 : Int32).toUInt32 &&& Int32.toUInt32 31)).toInt32)) + ((((((((v0 - (((v0.toUInt32 >>> ((1 : Int32).toUInt32 &&& Int32.toUInt32 31)).toInt32) &&& (1431655765 : Int32))) &&& (858993459 : Int32)) + ((((v0 - (((v0.toUInt32 >>> ((1 : Int32).toUInt32 &&& Int32.toUInt32 31)).toInt32) &&& (1431655765 : Int32))).toUInt32 >>> ((2 : Int32).toUInt32 &&& Int32.toUInt32 31)).toInt32) &&& (858993459 : Int32))) + (((((v0 - (((v0.toUInt32 >>> ((1 : Int32).toUInt32 &&& Int32.toUInt32 31)).toInt32) &&& (1431655765 : Int32))) &&& (858993459 : Int32)) + ((((v0 - (((v0.toUInt32 >>> ((1 : Int32).toUInt32 &&& Int32.toUInt32 31)).toInt32) &&& (1431655765 : Int32))).toUInt32 >>> ((2 : Int32).toUInt32 &&& Int32.toUInt32 31)).toInt32) &&& (858993459 : Int32))).toUInt32 >>> ((4 : Int32).toUInt32 &&& Int32.toUInt32 31)).toInt32)) &&& (252645135 : Int32)) + (((((((v0 - (((v0.toUInt32 >>> ((1 : Int32).toUInt32 &&& Int32.toUInt32 31)).toInt32) &&& (1431655765 : Int32))) &&& (858993459 : Int32)) + ((((v0 - (((v0.toUInt32 >>> ((1 : Int32).toUInt32 &&& Int32.toUInt32 31)).toInt32) &&& (1431655765 : Int32))).toUInt32 >>> ((2 : Int32).toUInt32 &&& Int32.toUInt32 31)).toInt32) &&& (858993459 : Int32))) + (((((v0 - (((v0.toUInt32 >>> ((1 : Int32).toUInt32 &&& Int32.toUInt32 31)).toInt32) &&& (1431655765 : Int32))) &&& (858993459 : Int32)) + ((((v0 - (((v0.toUInt32 >>> ((1 : Int32).toUInt32 &&& Int32.toUInt32 31)).toInt32) &&& (1431655765 : Int32))).toUInt32 >>> ((2 : Int32).toUInt32 &&& Int32.toUInt32 31)).toInt32) &&& (858993459 : Int32))).toUInt32 >>> ((4 : Int32).toUInt32 &&& Int32.toUInt32 31)).toInt32)) &&& (252645135 : Int32)).toUInt32 >>> ((8 : Int32).toUInt32 &&& Int32.toUInt32 31)).toInt32)).toUInt32 >>> ((16 : Int32).toUInt32 &&& Int32.toUInt32 31)).toInt32)) &&& (63 : Int32))
set_option maxRecDepth 100000 in
set_option maxHeartbeats 4000000 in
theorem met_J6_bitCount_0f7a4 (v0 : Int32) (w : mW) (res : Int32) (h : f_J6_bitCount_0f7a4 v0 w = some res) : mMet M_J6_bitCount_0f7a4 0 [vi v0] w (some (vi res)) w := by
  refine ev_met (n := 0) (by decide) rfl fun X => ?_
  unfold f_J6_bitCount_0f7a4 at h
  show mEv X M_J6_bitCount_0f7a4 0 _ _ 0 [some (vi v0)] [] w
  refine ev_iload_n (q := 1) dJ6_bitCount_0f7a4_0 rfl rfl ?_
  refine ev_iload_n (q := 2) dJ6_bitCount_0f7a4_1 rfl rfl ?_
  refine ev_iconst (q := 3) (v := (1 : Int32)) dJ6_bitCount_0f7a4_2 rfl (by decide) ?_
  refine ev_iushr (q := 4) dJ6_bitCount_0f7a4_3 rfl ?_
  refine ev_ldcw (q := 7) (v := (1431655765 : Int32)) dJ6_bitCount_0f7a4_4 rfl tw_555 ?_
  refine ev_iand (q := 8) dJ6_bitCount_0f7a4_7 rfl ?_
  refine ev_isub (q := 9) dJ6_bitCount_0f7a4_8 rfl ?_
  refine ev_istore_n (q := 10) dJ6_bitCount_0f7a4_9 rfl (by decide) ?_
  refine ev_iload_n (q := 11) dJ6_bitCount_0f7a4_10 rfl rfl ?_
  refine ev_ldcw (q := 14) (v := (858993459 : Int32)) dJ6_bitCount_0f7a4_11 rfl tw_556 ?_
  refine ev_iand (q := 15) dJ6_bitCount_0f7a4_14 rfl ?_
  refine ev_iload_n (q := 16) dJ6_bitCount_0f7a4_15 rfl rfl ?_
  refine ev_iconst (q := 17) (v := (2 : Int32)) dJ6_bitCount_0f7a4_16 rfl (by decide) ?_
  refine ev_iushr (q := 18) dJ6_bitCount_0f7a4_17 rfl ?_
  refine ev_ldcw (q := 21) (v := (858993459 : Int32)) dJ6_bitCount_0f7a4_18 rfl tw_556 ?_
  refine ev_iand (q := 22) dJ6_bitCount_0f7a4_21 rfl ?_
  refine ev_iadd (q := 23) dJ6_bitCount_0f7a4_22 rfl ?_
  refine ev_istore_n (q := 24) dJ6_bitCount_0f7a4_23 rfl (by decide) ?_
  refine ev_iload_n (q := 25) dJ6_bitCount_0f7a4_24 rfl rfl ?_
  refine ev_iload_n (q := 26) dJ6_bitCount_0f7a4_25 rfl rfl ?_
  refine ev_iconst (q := 27) (v := (4 : Int32)) dJ6_bitCount_0f7a4_26 rfl (by decide) ?_
  refine ev_iushr (q := 28) dJ6_bitCount_0f7a4_27 rfl ?_
  refine ev_iadd (q := 29) dJ6_bitCount_0f7a4_28 rfl ?_
  refine ev_ldcw (q := 32) (v := (252645135 : Int32)) dJ6_bitCount_0f7a4_29 rfl tw_557 ?_
  refine ev_iand (q := 33) dJ6_bitCount_0f7a4_32 rfl ?_
  refine ev_istore_n (q := 34) dJ6_bitCount_0f7a4_33 rfl (by decide) ?_
  refine ev_iload_n (q := 35) dJ6_bitCount_0f7a4_34 rfl rfl ?_
  refine ev_iload_n (q := 36) dJ6_bitCount_0f7a4_35 rfl rfl ?_
  refine ev_bipush (q := 38) (v := (8 : Int32)) dJ6_bitCount_0f7a4_36 rfl (by decide) ?_
  refine ev_iushr (q := 39) dJ6_bitCount_0f7a4_38 rfl ?_
  refine ev_iadd (q := 40) dJ6_bitCount_0f7a4_39 rfl ?_
  refine ev_istore_n (q := 41) dJ6_bitCount_0f7a4_40 rfl (by decide) ?_
  refine ev_iload_n (q := 42) dJ6_bitCount_0f7a4_41 rfl rfl ?_
  refine ev_iload_n (q := 43) dJ6_bitCount_0f7a4_42 rfl rfl ?_
  refine ev_bipush (q := 45) (v := (16 : Int32)) dJ6_bitCount_0f7a4_43 rfl (by decide) ?_
  refine ev_iushr (q := 46) dJ6_bitCount_0f7a4_45 rfl ?_
  refine ev_iadd (q := 47) dJ6_bitCount_0f7a4_46 rfl ?_
  refine ev_istore_n (q := 48) dJ6_bitCount_0f7a4_47 rfl (by decide) ?_
  refine ev_iload_n (q := 49) dJ6_bitCount_0f7a4_48 rfl rfl ?_
  refine ev_bipush (q := 51) (v := (63 : Int32)) dJ6_bitCount_0f7a4_49 rfl (by decide) ?_
  refine ev_iand (q := 52) dJ6_bitCount_0f7a4_51 rfl ?_
  cases h
  exact ev_iret dJ6_bitCount_0f7a4_52 rfl rfl
def f_J0_coder_7d493_J14 (s0 : Int32) (w : mW) : Option (Int32) := if s0 = 0 ∨ s0 = 1 then some (s0) else none
set_option maxRecDepth 100000 in
set_option maxHeartbeats 4000000 in
theorem e_J0_coder_7d493_J14 {X : mXs} (s0 : Int32) (w : mW) (res : Int32) (h : f_J0_coder_7d493_J14 s0 w = some res) : mEv X M_J0_coder_7d493 0 (some (vi res)) w 14 [none] [vi s0] w := by
  unfold f_J0_coder_7d493_J14 at h
  by_cases hz : s0 = 0 ∨ s0 = 1
  · rw [if_pos hz] at h
    cases h
    exact ev_iret dJ0_coder_7d493_14 rfl (by rcases hz with hz | hz <;> rw [hz] <;> rfl)
  · rw [if_neg hz] at h
    cases h
def f_J0_coder_7d493  (w : mW) : Option (Int32) := f_J0_coder_7d493_J14 (0 : Int32) w
set_option maxRecDepth 100000 in
set_option maxHeartbeats 4000000 in
theorem met_J0_coder_7d493  (w : mW) (res : Int32) (h : f_J0_coder_7d493  w = some res) : mMet M_J0_coder_7d493 0 [vx 1] w (some (vi res)) w := by
  refine ev_met (n := 0) (by decide) rfl fun X => ?_
  unfold f_J0_coder_7d493 at h
  show mEv X M_J0_coder_7d493 0 _ _ 0 [some (vx 1)] [] w
  refine ev_compact (q := 3) dJ0_coder_7d493_0 rfl tw_293 ?_
  refine ev_if_eq_f (q := 6) (t0 := 13) dJ0_coder_7d493_3 (by decide) rfl (by decide) ?_
  refine ev_aload_n (q := 7) dJ0_coder_7d493_6 rfl rfl ?_
  refine ev_coder (q := 10) dJ0_coder_7d493_7 rfl tw_743 ?_
  refine ev_goto (q := 14) dJ0_coder_7d493_10 (by decide) ?_
  exact ev_weak _ (mLe_none mLe_nil) (e_J0_coder_7d493_J14 (0 : Int32) w _ h)
def f_J0_isLatin1_aae02_J18 (s0 : Int32) (w : mW) : Option (Int32) := if s0 = 0 ∨ s0 = 1 then some (s0) else none
set_option maxRecDepth 100000 in
set_option maxHeartbeats 4000000 in
theorem e_J0_isLatin1_aae02_J18 {X : mXs} (s0 : Int32) (w : mW) (res : Int32) (h : f_J0_isLatin1_aae02_J18 s0 w = some res) : mEv X M_J0_isLatin1_aae02 0 (some (vi res)) w 18 [none] [vi s0] w := by
  unfold f_J0_isLatin1_aae02_J18 at h
  by_cases hz : s0 = 0 ∨ s0 = 1
  · rw [if_pos hz] at h
    cases h
    exact ev_zret dJ0_isLatin1_aae02_18 rfl hz
  · rw [if_neg hz] at h
    cases h
def f_J0_isLatin1_aae02_J17 (w : mW) : Option (Int32) := f_J0_isLatin1_aae02_J18 (0 : Int32) w
set_option maxRecDepth 100000 in
set_option maxHeartbeats 4000000 in
theorem e_J0_isLatin1_aae02_J17 {X : mXs} (w : mW) (res : Int32) (h : f_J0_isLatin1_aae02_J17 w = some res) : mEv X M_J0_isLatin1_aae02 0 (some (vi res)) w 17 [none] [] w := by
  unfold f_J0_isLatin1_aae02_J17 at h
  refine ev_iconst (q := 18) (v := (0 : Int32)) dJ0_isLatin1_aae02_17 rfl (by decide) ?_
  exact ev_weak _ (mLe_none mLe_nil) (e_J0_isLatin1_aae02_J18 (0 : Int32) w _ h)
def f_J0_isLatin1_aae02  (w : mW) : Option (Int32) := f_J0_isLatin1_aae02_J18 (1 : Int32) w
set_option maxRecDepth 100000 in
set_option maxHeartbeats 4000000 in
theorem met_J0_isLatin1_aae02  (w : mW) (res : Int32) (h : f_J0_isLatin1_aae02  w = some res) : mMet M_J0_isLatin1_aae02 0 [vx 1] w (some (vi res)) w := by
  refine ev_met (n := 0) (by decide) rfl fun X => ?_
  unfold f_J0_isLatin1_aae02 at h
  show mEv X M_J0_isLatin1_aae02 0 _ _ 0 [some (vx 1)] [] w
  refine ev_compact (q := 3) dJ0_isLatin1_aae02_0 rfl tw_293 ?_
  refine ev_if_eq_f (q := 6) (t0 := 17) dJ0_isLatin1_aae02_3 (by decide) rfl (by decide) ?_
  refine ev_aload_n (q := 7) dJ0_isLatin1_aae02_6 rfl rfl ?_
  refine ev_coder (q := 10) dJ0_isLatin1_aae02_7 rfl tw_743 ?_
  refine ev_if_ne_f (q := 13) (t0 := 17) dJ0_isLatin1_aae02_10 (by decide) rfl (by decide) ?_
  refine ev_iconst (q := 14) (v := (1 : Int32)) dJ0_isLatin1_aae02_13 rfl (by decide) ?_
  refine ev_goto (q := 18) dJ0_isLatin1_aae02_14 (by decide) ?_
  exact ev_weak _ (mLe_none mLe_nil) (e_J0_isLatin1_aae02_J18 (1 : Int32) w _ h)
def f_J1_canEncode_9a6ad_J16 (s0 : Int32) (w : mW) : Option (Int32) := if s0 = 0 ∨ s0 = 1 then some (s0) else none
set_option maxRecDepth 100000 in
set_option maxHeartbeats 4000000 in
theorem e_J1_canEncode_9a6ad_J16 {X : mXs} (s0 : Int32) (w : mW) (res : Int32) (h : f_J1_canEncode_9a6ad_J16 s0 w = some res) : mEv X M_J1_canEncode_9a6ad 0 (some (vi res)) w 16 [none] [vi s0] w := by
  unfold f_J1_canEncode_9a6ad_J16 at h
  by_cases hz : s0 = 0 ∨ s0 = 1
  · rw [if_pos hz] at h
    cases h
    exact ev_zret dJ1_canEncode_9a6ad_16 rfl hz
  · rw [if_neg hz] at h
    cases h
def f_J1_canEncode_9a6ad_J15 (w : mW) : Option (Int32) := f_J1_canEncode_9a6ad_J16 (0 : Int32) w
set_option maxRecDepth 100000 in
set_option maxHeartbeats 4000000 in
theorem e_J1_canEncode_9a6ad_J15 {X : mXs} (w : mW) (res : Int32) (h : f_J1_canEncode_9a6ad_J15 w = some res) : mEv X M_J1_canEncode_9a6ad 0 (some (vi res)) w 15 [none] [] w := by
  unfold f_J1_canEncode_9a6ad_J15 at h
  refine ev_iconst (q := 16) (v := (0 : Int32)) dJ1_canEncode_9a6ad_15 rfl (by decide) ?_
  exact ev_weak _ (mLe_none mLe_nil) (e_J1_canEncode_9a6ad_J16 (0 : Int32) w _ h)
def f_J1_canEncode_9a6ad (v0 : Int32) (w : mW) : Option (Int32) := if v0 < 0 then (f_J1_canEncode_9a6ad_J15 w) else (if (255 : Int32) < v0 then (f_J1_canEncode_9a6ad_J15 w) else (f_J1_canEncode_9a6ad_J16 (1 : Int32) w))
set_option maxRecDepth 100000 in
set_option maxHeartbeats 4000000 in
theorem met_J1_canEncode_9a6ad (v0 : Int32) (w : mW) (res : Int32) (h : f_J1_canEncode_9a6ad v0 w = some res) : mMet M_J1_canEncode_9a6ad 0 [vi v0] w (some (vi res)) w := by
  refine ev_met (n := 0) (by decide) rfl fun X => ?_
  unfold f_J1_canEncode_9a6ad at h
  show mEv X M_J1_canEncode_9a6ad 0 _ _ 0 [some (vi v0)] [] w
  refine ev_iload_n (q := 1) dJ1_canEncode_9a6ad_0 rfl rfl ?_
  by_cases hc : v0 < 0
  · rw [if_pos hc] at h
    refine ev_if_lt_t (q := 15) dJ1_canEncode_9a6ad_1 (by decide) hc ?_
    exact ev_weak _ (mLe_none mLe_nil) (e_J1_canEncode_9a6ad_J15 w _ h)
  · rw [if_neg hc] at h
    refine ev_if_lt_f (q := 4) (t0 := 15) dJ1_canEncode_9a6ad_1 (by decide) rfl hc ?_
    refine ev_iload_n (q := 5) dJ1_canEncode_9a6ad_4 rfl rfl ?_
    refine ev_sipush (q := 8) (v := (255 : Int32)) dJ1_canEncode_9a6ad_5 rfl (by decide) ?_
    by_cases hc : (255 : Int32) < v0
    · rw [if_pos hc] at h
      refine ev_icmp_gt_t (q := 15) dJ1_canEncode_9a6ad_8 (by decide) hc ?_
      exact ev_weak _ (mLe_none mLe_nil) (e_J1_canEncode_9a6ad_J15 w _ h)
    · rw [if_neg hc] at h
      refine ev_icmp_gt_f (q := 11) (t0 := 15) dJ1_canEncode_9a6ad_8 (by decide) rfl hc ?_
      refine ev_iconst (q := 12) (v := (1 : Int32)) dJ1_canEncode_9a6ad_11 rfl (by decide) ?_
      refine ev_goto (q := 16) dJ1_canEncode_9a6ad_12 (by decide) ?_
      exact ev_weak _ (mLe_none mLe_nil) (e_J1_canEncode_9a6ad_J16 (1 : Int32) w _ h)
def f_J1_indexOfChar_4cfef_L7 (v3 : Int32) (v4 : Int32) (w : mW) : Nat → Int32 → Option ((Int32) ⊕ (Unit))
  | 0, _ => none
  | n + 1, v5 => if v3 ≤ v5 then (some (.inr ())) else (Option.bind (mKind v5) fun r1 => if r1 = v4 then (some (.inl v5)) else ((f_J1_indexOfChar_4cfef_L7 v3 v4 w n) (v5 + (1 : Int32))))
set_option maxRecDepth 100000 in
set_option maxHeartbeats 4000000 in
theorem e_J1_indexOfChar_4cfef_L7 {X : mXs} {r : Option mV} {w' : mW} (P : ((Int32) ⊕ (Unit)) → Prop) (v3 : Int32) (v4 : Int32) (w : mW) (hret : ∀ y, P (.inl y) → r = (some (vi y)) ∧ w' = w) (hexit : ∀ y, P (.inr y) → mEv X M_J1_indexOfChar_4cfef 0 r w' 31 [none, none, none, none, none, none] [] w) : ∀ (n : Nat) (v5 : Int32) (e : (Int32) ⊕ (Unit)), f_J1_indexOfChar_4cfef_L7 v3 v4 w n v5 = some e → P e → mEv X M_J1_indexOfChar_4cfef 0 r w' 7 [some (vx 2), none, none, some (vi v3), some (vi v4), some (vi v5)] [] w := by
  intro n
  induction n with
  | zero =>
    intro v5 e h hP
    rw [f_J1_indexOfChar_4cfef_L7] at h
    cases h
  | succ n hk =>
    intro v5 e h hP
    rw [f_J1_indexOfChar_4cfef_L7] at h
    refine ev_iload (q := 9) dJ1_indexOfChar_4cfef_7 rfl rfl ?_
    refine ev_iload_n (q := 10) dJ1_indexOfChar_4cfef_9 rfl rfl ?_
    by_cases hc : v3 ≤ v5
    · rw [if_pos hc] at h
      refine ev_icmp_ge_t (q := 31) dJ1_indexOfChar_4cfef_10 (by decide) hc ?_
      cases h
      exact ev_weak _ (mLe_none (mLe_none (mLe_none (mLe_none (mLe_none (mLe_none mLe_nil)))))) (hexit _ hP)
    · rw [if_neg hc] at h
      refine ev_icmp_ge_f (q := 13) (t0 := 31) dJ1_indexOfChar_4cfef_10 (by decide) rfl hc ?_
      refine ev_aload_n (q := 14) dJ1_indexOfChar_4cfef_13 rfl rfl ?_
      refine ev_iload (q := 16) dJ1_indexOfChar_4cfef_14 rfl rfl ?_
      replace h := Option.bind_eq_some_iff.mp h; obtain ⟨r1, hr1, h⟩ := h
      refine ev_bL dJ1_indexOfChar_4cfef_16 hr1 rfl ?_
      refine ev_iload (q := 19) dJ1_indexOfChar_4cfef_17 rfl rfl ?_
      by_cases hc : r1 = v4
      · rw [if_pos hc] at h
        refine ev_icmp_ne_f (q := 22) (t0 := 25) dJ1_indexOfChar_4cfef_19 (by decide) rfl hc ?_
        refine ev_iload (q := 24) dJ1_indexOfChar_4cfef_22 rfl rfl ?_
        cases h
        obtain ⟨hr1, hr2⟩ := hret _ hP
        subst hr1
        subst hr2
        exact ev_iret dJ1_indexOfChar_4cfef_24 rfl rfl
      · rw [if_neg hc] at h
        refine ev_icmp_ne_t (q := 25) dJ1_indexOfChar_4cfef_19 (by decide) hc ?_
        refine ev_iinc (q := 28) (v := v5 + (1 : Int32)) dJ1_indexOfChar_4cfef_25 rfl (by decide) rfl (by rfl) ?_
        refine ev_goto (q := 7) dJ1_indexOfChar_4cfef_28 (by decide) ?_
        exact ev_weak _ (mLe_some (mLe_none (mLe_none (mLe_some (mLe_some (mLe_some mLe_nil)))))) (hk (v5 + (1 : Int32)) _ h hP)
def f_J1_indexOfChar_4cfef (v1 : Int32) (v2 : Int32) (v3 : Int32) (w : mW) : Option (Int32) := Option.bind (f_J1_indexOfChar_4cfef_L7 v3 v1.toInt8.toInt32 w mFuel v2) fun e2 => match e2 with | .inl y4 => some y4 | .inr y3 => some ((-1 : Int32))
set_option maxRecDepth 100000 in
set_option maxHeartbeats 4000000 in
theorem met_J1_indexOfChar_4cfef (v1 : Int32) (v2 : Int32) (v3 : Int32) (w : mW) (res : Int32) (h : f_J1_indexOfChar_4cfef v1 v2 v3 w = some res) : mMet M_J1_indexOfChar_4cfef 0 [vx 2, vi v1, vi v2, vi v3] w (some (vi res)) w := by
  refine ev_met (n := 2) (by decide) rfl fun X => ?_
  unfold f_J1_indexOfChar_4cfef at h
  show mEv X M_J1_indexOfChar_4cfef 0 _ _ 0 [some (vx 2), some (vi v1), some (vi v2), some (vi v3), none, none] [] w
  refine ev_iload_n (q := 1) dJ1_indexOfChar_4cfef_0 rfl rfl ?_
  refine ev_i2b (q := 2) dJ1_indexOfChar_4cfef_1 rfl ?_
  refine ev_istore (q := 4) dJ1_indexOfChar_4cfef_2 rfl (by decide) ?_
  refine ev_iload_n (q := 5) dJ1_indexOfChar_4cfef_4 rfl rfl ?_
  refine ev_istore (q := 7) dJ1_indexOfChar_4cfef_5 rfl (by decide) ?_
  replace h := Option.bind_eq_some_iff.mp h; obtain ⟨e2, he2, h⟩ := h
  refine ev_weak _ (mLe_some (mLe_none (mLe_none (mLe_some (mLe_some (mLe_some mLe_nil)))))) (e_J1_indexOfChar_4cfef_L7 (fun z => e2 = z) v3 v1.toInt8.toInt32 w (fun y4 hq => ?_) (fun y3 hq => ?_) mFuel v2 _ he2 rfl)
  · subst hq
    dsimp only at h
    cases h
    exact ⟨rfl, rfl⟩
  · subst hq
    dsimp only at h
    refine ev_iconst (q := 32) (v := (-1 : Int32)) dJ1_indexOfChar_4cfef_31 rfl (by decide) ?_
    cases h
    exact ev_iret dJ1_indexOfChar_4cfef_32 rfl rfl
def f_X10_as_J38 (s0 : Int32) (w : mW) : Option (Int32) := some (s0)
set_option maxRecDepth 100000 in
set_option maxHeartbeats 4000000 in
theorem e_X10_as_J38 {X : mXs} (s0 : Int32) (w : mW) (res : Int32) (h : f_X10_as_J38 s0 w = some res) : mEv X M_X10_as 1 (some (vi res)) w 38 [none, none, none, none] [vi s0] w := by
  unfold f_X10_as_J38 at h
  cases h
  exact ev_iret dX10_as_38 rfl rfl
def f_X10_as_J22 (w : mW) : Option (Int32) := some ((-102 : Int32))
set_option maxRecDepth 100000 in
set_option maxHeartbeats 4000000 in
theorem e_X10_as_J22 {X : mXs} (w : mW) (res : Int32) (h : f_X10_as_J22 w = some res) : mEv X M_X10_as 1 (some (vi res)) w 22 [none, none, none, none] [] w := by
  unfold f_X10_as_J22 at h
  refine ev_bipush (q := 24) (v := (-102 : Int32)) dX10_as_22 rfl (by decide) ?_
  cases h
  exact ev_iret dX10_as_24 rfl rfl
def f_X10_as (o : Nat) (v1 : Int32) (v2 : Int32) (w : mW) : Option (Int32) := Option.bind (kO w (some o) 10) fun _ => Option.bind (f_X10_tosserAt o v1 w) fun r1 => oC r1 (some ((-101 : Int32))) (fun a3 => if v2 < 0 then (f_X10_as_J22 w) else (if v2 ≤ (4 : Int32) then (Option.bind (f_X10_isOfKind (some a3) v2 w) fun r4 => if r4 = 0 then (f_X10_as_J38 (-1 : Int32) w) else (f_X10_as_J38 v1 w)) else (f_X10_as_J22 w)))
set_option maxRecDepth 100000 in
set_option maxHeartbeats 4000000 in
theorem met_X10_as (o : Nat) (v1 : Int32) (v2 : Int32) (w : mW) (res : Int32) (h : f_X10_as o v1 v2 w = some res) : mMet M_X10_as 1 [vr ((some o)), vi v1, vi v2] w (some (vi res)) w := by
  refine ev_met (n := 1) (by decide) rfl fun X => ?_
  unfold f_X10_as at h
  show mEv X M_X10_as 1 _ _ 0 [some (vr ((some o))), some (vi v1), some (vi v2), none] [] w
  refine ev_aload_n (q := 1) dX10_as_0 rfl rfl ?_
  refine ev_iload_n (q := 2) dX10_as_1 rfl rfl ?_
  replace h := Option.bind_eq_some_iff.mp h; obtain ⟨q2, hq2, h⟩ := h
  obtain ⟨hxq2, fsq2, hkq2⟩ := kO_spec hq2
  cases hxq2
  replace h := Option.bind_eq_some_iff.mp h; obtain ⟨r1, hr1, h⟩ := h
  refine ev_invV (M1 := M_X10_tosserAt) (as := [vi v1]) (fs := fsq2) (ci := 10) dX10_as_2 rfl tw_461 cal_X10_tosserAt tw_463 tw_12 (by decide) rfl rfl (Nat.le_of_ble_eq_true rfl) hkq2 rfl (met_X10_tosserAt o v1 w _ hr1) ?_
  refine ev_astore_n (q := 6) dX10_as_5 rfl (by decide) ?_
  refine ev_aload_n (q := 7) dX10_as_6 rfl rfl ?_
  rcases r1 with _ | a3
  · dsimp only [oC] at h
    refine ev_ifnonnull_f (q := 10) dX10_as_7 rfl ?_
    refine ev_bipush (q := 12) (v := (-101 : Int32)) dX10_as_10 rfl (by decide) ?_
    cases h
    exact ev_iret dX10_as_12 rfl rfl
  · dsimp only [oC] at h
    refine ev_ifnonnull_t (q := 13) dX10_as_7 (by decide) ?_
    refine ev_iload_n (q := 14) dX10_as_13 rfl rfl ?_
    by_cases hc : v2 < 0
    · rw [if_pos hc] at h
      refine ev_if_lt_t (q := 22) dX10_as_14 (by decide) hc ?_
      exact ev_weak _ (mLe_none (mLe_none (mLe_none (mLe_none mLe_nil)))) (e_X10_as_J22 w _ h)
    · rw [if_neg hc] at h
      refine ev_if_lt_f (q := 17) (t0 := 22) dX10_as_14 (by decide) rfl hc ?_
      refine ev_iload_n (q := 18) dX10_as_17 rfl rfl ?_
      refine ev_iconst (q := 19) (v := (4 : Int32)) dX10_as_18 rfl (by decide) ?_
      by_cases hc : v2 ≤ (4 : Int32)
      · rw [if_pos hc] at h
        refine ev_icmp_le_t (q := 25) dX10_as_19 (by decide) hc ?_
        refine ev_aload_n (q := 26) dX10_as_25 rfl rfl ?_
        refine ev_iload_n (q := 27) dX10_as_26 rfl rfl ?_
        replace h := Option.bind_eq_some_iff.mp h; obtain ⟨r4, hr4, h⟩ := h
        refine ev_invS (M1 := M_X10_isOfKind) (as := [vr ((some a3)), vi v2]) dX10_as_27 rfl tw_585 cal_X10_isOfKind tw_586 (by decide) rfl rfl (Nat.le_of_ble_eq_true rfl) (met_X10_isOfKind (some a3) v2 w _ hr4) ?_
        by_cases hc : r4 = 0
        · rw [if_pos hc] at h
          refine ev_if_eq_t (q := 37) dX10_as_30 (by decide) hc ?_
          refine ev_iconst (q := 38) (v := (-1 : Int32)) dX10_as_37 rfl (by decide) ?_
          exact ev_weak _ (mLe_none (mLe_none (mLe_none (mLe_none mLe_nil)))) (e_X10_as_J38 (-1 : Int32) w _ h)
        · rw [if_neg hc] at h
          refine ev_if_eq_f (q := 33) (t0 := 37) dX10_as_30 (by decide) rfl hc ?_
          refine ev_iload_n (q := 34) dX10_as_33 rfl rfl ?_
          refine ev_goto (q := 38) dX10_as_34 (by decide) ?_
          exact ev_weak _ (mLe_none (mLe_none (mLe_none (mLe_none mLe_nil)))) (e_X10_as_J38 v1 w _ h)
      · rw [if_neg hc] at h
        refine ev_icmp_le_f (q := 22) (t0 := 25) dX10_as_19 (by decide) rfl hc ?_
        exact ev_weak _ (mLe_none (mLe_none (mLe_none (mLe_none mLe_nil)))) (e_X10_as_J22 w _ h)
def f_X10_columnBy_J18 (s0 : Int32) (w : mW) : Option (Int32) := some (s0)
set_option maxRecDepth 100000 in
set_option maxHeartbeats 4000000 in
theorem e_X10_columnBy_J18 {X : mXs} (s0 : Int32) (w : mW) (res : Int32) (h : f_X10_columnBy_J18 s0 w = some res) : mEv X M_X10_columnBy 1 (some (vi res)) w 18 [none, none, none] [vi s0] w := by
  unfold f_X10_columnBy_J18 at h
  cases h
  exact ev_iret dX10_columnBy_18 rfl rfl
def f_X10_columnBy (v0 : Int32) (v1 : Int32) (w : mW) : Option (Int32) := Option.bind (f_X10_isColumn ((v0 + v1) - (2 : Int32)) w) fun r1 => if r1 = 0 then (f_X10_columnBy_J18 (-1 : Int32) w) else (f_X10_columnBy_J18 ((v0 + v1) - (2 : Int32)) w)
set_option maxRecDepth 100000 in
set_option maxHeartbeats 4000000 in
theorem met_X10_columnBy (v0 : Int32) (v1 : Int32) (w : mW) (res : Int32) (h : f_X10_columnBy v0 v1 w = some res) : mMet M_X10_columnBy 1 [vi v0, vi v1] w (some (vi res)) w := by
  refine ev_met (n := 1) (by decide) rfl fun X => ?_
  unfold f_X10_columnBy at h
  show mEv X M_X10_columnBy 1 _ _ 0 [some (vi v0), some (vi v1), none] [] w
  refine ev_iload_n (q := 1) dX10_columnBy_0 rfl rfl ?_
  refine ev_iload_n (q := 2) dX10_columnBy_1 rfl rfl ?_
  refine ev_iadd (q := 3) dX10_columnBy_2 rfl ?_
  refine ev_iconst (q := 4) (v := (2 : Int32)) dX10_columnBy_3 rfl (by decide) ?_
  refine ev_isub (q := 5) dX10_columnBy_4 rfl ?_
  refine ev_istore_n (q := 6) dX10_columnBy_5 rfl (by decide) ?_
  refine ev_iload_n (q := 7) dX10_columnBy_6 rfl rfl ?_
  replace h := Option.bind_eq_some_iff.mp h; obtain ⟨r1, hr1, h⟩ := h
  refine ev_invS (M1 := M_X10_isColumn) (as := [vi ((v0 + v1) - (2 : Int32))]) dX10_columnBy_7 rfl tw_570 cal_X10_isColumn tw_571 (by decide) rfl rfl (Nat.le_of_ble_eq_true rfl) (met_X10_isColumn ((v0 + v1) - (2 : Int32)) w _ hr1) ?_
  by_cases hc : r1 = 0
  · rw [if_pos hc] at h
    refine ev_if_eq_t (q := 17) dX10_columnBy_10 (by decide) hc ?_
    refine ev_iconst (q := 18) (v := (-1 : Int32)) dX10_columnBy_17 rfl (by decide) ?_
    exact ev_weak _ (mLe_none (mLe_none (mLe_none mLe_nil))) (e_X10_columnBy_J18 (-1 : Int32) w _ h)
  · rw [if_neg hc] at h
    refine ev_if_eq_f (q := 13) (t0 := 17) dX10_columnBy_10 (by decide) rfl hc ?_
    refine ev_iload_n (q := 14) dX10_columnBy_13 rfl rfl ?_
    refine ev_goto (q := 18) dX10_columnBy_14 (by decide) ?_
    exact ev_weak _ (mLe_none (mLe_none (mLe_none mLe_nil))) (e_X10_columnBy_J18 ((v0 + v1) - (2 : Int32)) w _ h)
def f_X10_copy_L2 (v0 : Option Nat) (v1 : Option Nat) : Nat → Int32 → mW → Option (mW)
  | 0, _, _ => none
  | n + 1, v2, w => oC v0 (some (w)) (fun a1 => Option.bind (aN w (some a1)) fun r2 => if r2 ≤ v2 then (some (w)) else (Option.bind (aL w (some a1) v2) fun r3 => Option.bind (f_X10_put v1 v2 r3 w) fun w4 => (f_X10_copy_L2 v0 v1 n) (v2 + (1 : Int32)) w4))
set_option maxRecDepth 100000 in
set_option maxHeartbeats 4000000 in
theorem e_X10_copy_L2 {X : mXs} {r : Option mV} {w' : mW} (P : (mW) → Prop) (v0 : Option Nat) (v1 : Option Nat) (hexit : ∀ y, P y → mEv X M_X10_copy 1 r w' 26 [none, none, none] [] y) : ∀ (n : Nat) (v2 : Int32) (w : mW) (e : mW), f_X10_copy_L2 v0 v1 n v2 w = some e → P e → mEv X M_X10_copy 1 r w' 2 [some (vr v0), some (vr v1), some (vi v2)] [] w := by
  intro n
  induction n with
  | zero =>
    intro v2 w e h hP
    rw [f_X10_copy_L2] at h
    cases h
  | succ n hk =>
    intro v2 w e h hP
    rw [f_X10_copy_L2] at h
    refine ev_aload_n (q := 3) dX10_copy_2 rfl rfl ?_
    rcases v0 with _ | a1
    · dsimp only [oC] at h
      refine ev_ifnull_t (q := 26) dX10_copy_3 (by decide) ?_
      cases h
      exact ev_weak _ (mLe_none (mLe_none (mLe_none mLe_nil))) (hexit _ hP)
    · dsimp only [oC] at h
      refine ev_ifnull_f (q := 6) dX10_copy_3 rfl ?_
      refine ev_iload_n (q := 7) dX10_copy_6 rfl rfl ?_
      refine ev_aload_n (q := 8) dX10_copy_7 rfl rfl ?_
      replace h := Option.bind_eq_some_iff.mp h; obtain ⟨r2, hr2, h⟩ := h
      refine ev_aN dX10_copy_8 hr2 rfl ?_
      by_cases hc : r2 ≤ v2
      · rw [if_pos hc] at h
        refine ev_icmp_ge_t (q := 26) dX10_copy_9 (by decide) hc ?_
        cases h
        exact ev_weak _ (mLe_none (mLe_none (mLe_none mLe_nil))) (hexit _ hP)
      · rw [if_neg hc] at h
        refine ev_icmp_ge_f (q := 12) (t0 := 26) dX10_copy_9 (by decide) rfl hc ?_
        refine ev_aload_n (q := 13) dX10_copy_12 rfl rfl ?_
        refine ev_iload_n (q := 14) dX10_copy_13 rfl rfl ?_
        refine ev_aload_n (q := 15) dX10_copy_14 rfl rfl ?_
        refine ev_iload_n (q := 16) dX10_copy_15 rfl rfl ?_
        replace h := Option.bind_eq_some_iff.mp h; obtain ⟨r3, hr3, h⟩ := h
        refine ev_aL dX10_copy_16 hr3 rfl ?_
        replace h := Option.bind_eq_some_iff.mp h; obtain ⟨w4, hw4, h⟩ := h
        refine ev_invS (M1 := M_X10_put) (as := [vr v1, vi v2, vi r3]) dX10_copy_17 rfl tw_402 cal_X10_put tw_270 (by decide) rfl rfl (Nat.le_of_ble_eq_true rfl) (met_X10_put v1 v2 r3 w _ hw4) ?_
        refine ev_iinc (q := 23) (v := v2 + (1 : Int32)) dX10_copy_20 rfl (by decide) rfl (by rfl) ?_
        refine ev_goto (q := 2) dX10_copy_23 (by decide) ?_
        exact ev_weak _ (mLe_some (mLe_some (mLe_some mLe_nil))) (hk (v2 + (1 : Int32)) w4 _ h hP)
def f_X10_copy (v0 : Option Nat) (v1 : Option Nat) (w : mW) : Option (mW) := Option.bind (f_X10_copy_L2 v0 v1 mFuel (0 : Int32) w) fun e5 => some (e5)
set_option maxRecDepth 100000 in
set_option maxHeartbeats 4000000 in
theorem met_X10_copy (v0 : Option Nat) (v1 : Option Nat) (w : mW) (res : mW) (h : f_X10_copy v0 v1 w = some res) : mMet M_X10_copy 1 [vr v0, vr v1] w none res := by
  refine ev_met (n := 1) (by decide) rfl fun X => ?_
  unfold f_X10_copy at h
  show mEv X M_X10_copy 1 _ _ 0 [some (vr v0), some (vr v1), none] [] w
  refine ev_iconst (q := 1) (v := (0 : Int32)) dX10_copy_0 rfl (by decide) ?_
  refine ev_istore_n (q := 2) dX10_copy_1 rfl (by decide) ?_
  replace h := Option.bind_eq_some_iff.mp h; obtain ⟨e5, he5, h⟩ := h
  refine ev_weak _ (mLe_some (mLe_some (mLe_some mLe_nil))) (e_X10_copy_L2 (fun z => e5 = z) v0 v1 (fun e5q hq => ?_) mFuel (0 : Int32) w _ he5 rfl)
  subst hq
  cases h
  exact ev_vret dX10_copy_26 rfl
