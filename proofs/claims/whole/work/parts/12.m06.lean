def f_X7_init (o : Nat) (w : mW) : Option (Unit) := Option.bind (f_X8_init o  w) fun r1 => some (())
set_option maxRecDepth 100000 in
set_option maxHeartbeats 4000000 in
theorem met_X7_init (o : Nat) (w : mW) (res : Unit) (h : f_X7_init o w = some res) : mMet M_X7_init 2 [vr ((some o))] w none w := by
  refine ev_met (n := 0) (by decide) rfl fun X => ?_
  unfold f_X7_init at h
  show mEv X M_X7_init 2 _ _ 0 [some (vr ((some o)))] [] w
  refine ev_aload_n (q := 1) dX7_init_0 rfl rfl ?_
  replace h := Option.bind_eq_some_iff.mp h; obtain ⟨r1, hr1, h⟩ := h
  refine ev_invIN (M1 := M_X8_init) (as := []) dX7_init_1 rfl tw_486 cal_X8_init tw_470 rfl rfl (by decide) rfl rfl (Nat.le_of_ble_eq_true rfl) (met_X8_init o  w _ hr1) ?_
  cases h
  exact ev_vret dX7_init_4 rfl
def f_X9_init (o : Nat) (w : mW) : Option (Unit) := Option.bind (f_X8_init o  w) fun r1 => some (())
set_option maxRecDepth 100000 in
set_option maxHeartbeats 4000000 in
theorem met_X9_init (o : Nat) (w : mW) (res : Unit) (h : f_X9_init o w = some res) : mMet M_X9_init 2 [vr ((some o))] w none w := by
  refine ev_met (n := 0) (by decide) rfl fun X => ?_
  unfold f_X9_init at h
  show mEv X M_X9_init 2 _ _ 0 [some (vr ((some o)))] [] w
  refine ev_aload_n (q := 1) dX9_init_0 rfl rfl ?_
  replace h := Option.bind_eq_some_iff.mp h; obtain ⟨r1, hr1, h⟩ := h
  refine ev_invIN (M1 := M_X8_init) (as := []) dX9_init_1 rfl tw_479 cal_X8_init tw_470 rfl rfl (by decide) rfl rfl (Nat.le_of_ble_eq_true rfl) (met_X8_init o  w _ hr1) ?_
  cases h
  exact ev_vret dX9_init_4 rfl
def f_X11_as_J70 (s0 : Int32) (w : mW) : Option (Int32) := some (s0)
set_option maxRecDepth 100000 in
set_option maxHeartbeats 4000000 in
theorem e_X11_as_J70 {X : mXs} (s0 : Int32) (w : mW) (res : Int32) (h : f_X11_as_J70 s0 w = some res) : mEv X M_X11_as 2 (some (vi res)) w 70 [none, none, none, none] [vi s0] w := by
  unfold f_X11_as_J70 at h
  cases h
  exact ev_iret dX11_as_70 rfl rfl
def f_X11_as_J60 (v1 : Int32) (s0 : Int32) (w : mW) : Option (Int32) := if s0 = 0 then (f_X11_as_J70 (-1 : Int32) w) else (f_X11_as_J70 v1 w)
set_option maxRecDepth 100000 in
set_option maxHeartbeats 4000000 in
theorem e_X11_as_J60 {X : mXs} (v1 : Int32) (s0 : Int32) (w : mW) (res : Int32) (h : f_X11_as_J60 v1 s0 w = some res) : mEv X M_X11_as 2 (some (vi res)) w 60 [none, some (vi v1), none, none] [vi s0] w := by
  unfold f_X11_as_J60 at h
  refine ev_istore_n (q := 61) dX11_as_60 rfl (by decide) ?_
  refine ev_iload_n (q := 62) dX11_as_61 rfl rfl ?_
  by_cases hc : s0 = 0
  · rw [if_pos hc] at h
    refine ev_if_eq_t (q := 69) dX11_as_62 (by decide) hc ?_
    refine ev_iconst (q := 70) (v := (-1 : Int32)) dX11_as_69 rfl (by decide) ?_
    exact ev_weak _ (mLe_none (mLe_none (mLe_none (mLe_none mLe_nil)))) (e_X11_as_J70 (-1 : Int32) w _ h)
  · rw [if_neg hc] at h
    refine ev_if_eq_f (q := 65) (t0 := 69) dX11_as_62 (by decide) rfl hc ?_
    refine ev_iload_n (q := 66) dX11_as_65 rfl rfl ?_
    refine ev_goto (q := 70) dX11_as_66 (by decide) ?_
    exact ev_weak _ (mLe_none (mLe_none (mLe_none (mLe_none mLe_nil)))) (e_X11_as_J70 v1 w _ h)
def f_X11_as_J59 (v1 : Int32) (w : mW) : Option (Int32) := f_X11_as_J60 v1 (0 : Int32) w
set_option maxRecDepth 100000 in
set_option maxHeartbeats 4000000 in
theorem e_X11_as_J59 {X : mXs} (v1 : Int32) (w : mW) (res : Int32) (h : f_X11_as_J59 v1 w = some res) : mEv X M_X11_as 2 (some (vi res)) w 59 [none, some (vi v1), none, none] [] w := by
  unfold f_X11_as_J59 at h
  refine ev_iconst (q := 60) (v := (0 : Int32)) dX11_as_59 rfl (by decide) ?_
  exact ev_weak _ (mLe_none (mLe_some (mLe_none (mLe_none mLe_nil)))) (e_X11_as_J60 v1 (0 : Int32) w _ h)
def f_X11_as_J55 (v1 : Int32) (w : mW) : Option (Int32) := f_X11_as_J60 v1 (1 : Int32) w
set_option maxRecDepth 100000 in
set_option maxHeartbeats 4000000 in
theorem e_X11_as_J55 {X : mXs} (v1 : Int32) (w : mW) (res : Int32) (h : f_X11_as_J55 v1 w = some res) : mEv X M_X11_as 2 (some (vi res)) w 55 [none, some (vi v1), none, none] [] w := by
  unfold f_X11_as_J55 at h
  refine ev_iconst (q := 56) (v := (1 : Int32)) dX11_as_55 rfl (by decide) ?_
  refine ev_goto (q := 60) dX11_as_56 (by decide) ?_
  exact ev_weak _ (mLe_none (mLe_some (mLe_none (mLe_none mLe_nil)))) (e_X11_as_J60 v1 (1 : Int32) w _ h)
def f_X11_as (o : Nat) (v1 : Int32) (v2 : Int32) (w : mW) : Option (Int32) := Option.bind (kO w (some o) 11) fun _ => Option.bind (f_X11_isTosser o v1 w) fun r1 => if r1 = 0 then (some ((-101 : Int32))) else (Option.bind (f_X11_in v2.toInt64 (0 : Int64) (4 : Int64) w) fun r3 => if r3 = 0 then (some ((-102 : Int32))) else (if v2 = 0 then (f_X11_as_J55 v1 w) else (Option.bind (gR w (some o) 11 14) fun r4 => Option.bind (aL w r4 v1) fun r5 => if v2 = r5 then (f_X11_as_J55 v1 w) else (if v2 = (2 : Int32) then (Option.bind (gR w (some o) 11 14) fun r6 => Option.bind (aL w r6 v1) fun r7 => if r7 = (4 : Int32) then (f_X11_as_J55 v1 w) else (f_X11_as_J59 v1 w)) else (f_X11_as_J59 v1 w)))))
set_option maxRecDepth 100000 in
set_option maxHeartbeats 4000000 in
theorem met_X11_as (o : Nat) (v1 : Int32) (v2 : Int32) (w : mW) (res : Int32) (h : f_X11_as o v1 v2 w = some res) : mMet M_X11_as 2 [vr ((some o)), vi v1, vi v2] w (some (vi res)) w := by
  refine ev_met (n := 1) (by decide) rfl fun X => ?_
  unfold f_X11_as at h
  show mEv X M_X11_as 2 _ _ 0 [some (vr ((some o))), some (vi v1), some (vi v2), none] [] w
  refine ev_aload_n (q := 1) dX11_as_0 rfl rfl ?_
  refine ev_iload_n (q := 2) dX11_as_1 rfl rfl ?_
  replace h := Option.bind_eq_some_iff.mp h; obtain ⟨q2, hq2, h⟩ := h
  obtain ⟨hxq2, fsq2, hkq2⟩ := kO_spec hq2
  cases hxq2
  replace h := Option.bind_eq_some_iff.mp h; obtain ⟨r1, hr1, h⟩ := h
  refine ev_invV (M1 := M_X11_isTosser) (as := [vi v1]) (fs := fsq2) (ci := 11) dX11_as_2 rfl tw_999 cal_X11_isTosser tw_1001 tw_34 (by decide) rfl rfl (Nat.le_of_ble_eq_true rfl) hkq2 rfl (met_X11_isTosser o v1 w _ hr1) ?_
  by_cases hc : r1 = 0
  · rw [if_pos hc] at h
    refine ev_if_ne_f (q := 8) (t0 := 11) dX11_as_5 (by decide) rfl hc ?_
    refine ev_bipush (q := 10) (v := (-101 : Int32)) dX11_as_8 rfl (by decide) ?_
    cases h
    exact ev_iret dX11_as_10 rfl rfl
  · rw [if_neg hc] at h
    refine ev_if_ne_t (q := 11) dX11_as_5 (by decide) hc ?_
    refine ev_iload_n (q := 12) dX11_as_11 rfl rfl ?_
    refine ev_i2l (q := 13) dX11_as_12 rfl ?_
    refine ev_lconst (q := 14) (v := (0 : Int64)) dX11_as_13 rfl (by decide) ?_
    refine ev_ldc2 (q := 17) (v := (4 : Int64)) dX11_as_14 rfl tw_1094 ?_
    replace h := Option.bind_eq_some_iff.mp h; obtain ⟨r3, hr3, h⟩ := h
    refine ev_invS (M1 := M_X11_in) (as := [vl v2.toInt64, vl ((0 : Int64)), vl ((4 : Int64))]) dX11_as_17 rfl tw_954 cal_X11_in tw_955 (by decide) rfl rfl (Nat.le_of_ble_eq_true rfl) (met_X11_in v2.toInt64 (0 : Int64) (4 : Int64) w _ hr3) ?_
    by_cases hc : r3 = 0
    · rw [if_pos hc] at h
      refine ev_if_ne_f (q := 23) (t0 := 26) dX11_as_20 (by decide) rfl hc ?_
      refine ev_bipush (q := 25) (v := (-102 : Int32)) dX11_as_23 rfl (by decide) ?_
      cases h
      exact ev_iret dX11_as_25 rfl rfl
    · rw [if_neg hc] at h
      refine ev_if_ne_t (q := 26) dX11_as_20 (by decide) hc ?_
      refine ev_iload_n (q := 27) dX11_as_26 rfl rfl ?_
      by_cases hc : v2 = 0
      · rw [if_pos hc] at h
        refine ev_if_eq_t (q := 55) dX11_as_27 (by decide) hc ?_
        exact ev_weak _ (mLe_none (mLe_some (mLe_none (mLe_none mLe_nil)))) (e_X11_as_J55 v1 w _ h)
      · rw [if_neg hc] at h
        refine ev_if_eq_f (q := 30) (t0 := 55) dX11_as_27 (by decide) rfl hc ?_
        refine ev_iload_n (q := 31) dX11_as_30 rfl rfl ?_
        refine ev_aload_n (q := 32) dX11_as_31 rfl rfl ?_
        replace h := Option.bind_eq_some_iff.mp h; obtain ⟨r4, hr4, h⟩ := h
        refine ev_gR dX11_as_32 fl_X11_25 hr4 rfl ?_
        refine ev_iload_n (q := 36) dX11_as_35 rfl rfl ?_
        replace h := Option.bind_eq_some_iff.mp h; obtain ⟨r5, hr5, h⟩ := h
        refine ev_aL dX11_as_36 hr5 rfl ?_
        by_cases hc : v2 = r5
        · rw [if_pos hc] at h
          refine ev_icmp_eq_t (q := 55) dX11_as_37 (by decide) hc ?_
          exact ev_weak _ (mLe_none (mLe_some (mLe_none (mLe_none mLe_nil)))) (e_X11_as_J55 v1 w _ h)
        · rw [if_neg hc] at h
          refine ev_icmp_eq_f (q := 40) (t0 := 55) dX11_as_37 (by decide) rfl hc ?_
          refine ev_iload_n (q := 41) dX11_as_40 rfl rfl ?_
          refine ev_iconst (q := 42) (v := (2 : Int32)) dX11_as_41 rfl (by decide) ?_
          by_cases hc : v2 = (2 : Int32)
          · rw [if_pos hc] at h
            refine ev_icmp_ne_f (q := 45) (t0 := 59) dX11_as_42 (by decide) rfl hc ?_
            refine ev_aload_n (q := 46) dX11_as_45 rfl rfl ?_
            replace h := Option.bind_eq_some_iff.mp h; obtain ⟨r6, hr6, h⟩ := h
            refine ev_gR dX11_as_46 fl_X11_25 hr6 rfl ?_
            refine ev_iload_n (q := 50) dX11_as_49 rfl rfl ?_
            replace h := Option.bind_eq_some_iff.mp h; obtain ⟨r7, hr7, h⟩ := h
            refine ev_aL dX11_as_50 hr7 rfl ?_
            refine ev_iconst (q := 52) (v := (4 : Int32)) dX11_as_51 rfl (by decide) ?_
            by_cases hc : r7 = (4 : Int32)
            · rw [if_pos hc] at h
              refine ev_icmp_ne_f (q := 55) (t0 := 59) dX11_as_52 (by decide) rfl hc ?_
              exact ev_weak _ (mLe_none (mLe_some (mLe_none (mLe_none mLe_nil)))) (e_X11_as_J55 v1 w _ h)
            · rw [if_neg hc] at h
              refine ev_icmp_ne_t (q := 59) dX11_as_52 (by decide) hc ?_
              exact ev_weak _ (mLe_none (mLe_some (mLe_none (mLe_none mLe_nil)))) (e_X11_as_J59 v1 w _ h)
          · rw [if_neg hc] at h
            refine ev_icmp_ne_t (q := 59) dX11_as_42 (by decide) hc ?_
            exact ev_weak _ (mLe_none (mLe_some (mLe_none (mLe_none mLe_nil)))) (e_X11_as_J59 v1 w _ h)
def f_X11_count (o : Nat) (v1 : Int32) (w : mW) : Option (Int32) := Option.bind (kO w (some o) 11) fun _ => Option.bind (f_X11_countOf o v1 w) fun r1 => some (r1)
set_option maxRecDepth 100000 in
set_option maxHeartbeats 4000000 in
theorem met_X11_count (o : Nat) (v1 : Int32) (w : mW) (res : Int32) (h : f_X11_count o v1 w = some res) : mMet M_X11_count 2 [vr ((some o)), vi v1] w (some (vi res)) w := by
  refine ev_met (n := 0) (by decide) rfl fun X => ?_
  unfold f_X11_count at h
  show mEv X M_X11_count 2 _ _ 0 [some (vr ((some o))), some (vi v1)] [] w
  refine ev_aload_n (q := 1) dX11_count_0 rfl rfl ?_
  refine ev_iload_n (q := 2) dX11_count_1 rfl rfl ?_
  replace h := Option.bind_eq_some_iff.mp h; obtain ⟨q2, hq2, h⟩ := h
  obtain ⟨hxq2, fsq2, hkq2⟩ := kO_spec hq2
  cases hxq2
  replace h := Option.bind_eq_some_iff.mp h; obtain ⟨r1, hr1, h⟩ := h
  refine ev_invV (M1 := M_X11_countOf) (as := [vi v1]) (fs := fsq2) (ci := 11) dX11_count_2 rfl tw_1204 cal_X11_countOf tw_1206 tw_56 (by decide) rfl rfl (Nat.le_of_ble_eq_true rfl) hkq2 rfl (met_X11_countOf o v1 w _ hr1) ?_
  cases h
  exact ev_iret dX11_count_5 rfl rfl
def f_X11_isSleeperLetter_J106 (s0 : Int32) (w : mW) : Option (Int32 × mW) := if s0 = 0 ∨ s0 = 1 then some ((s0, w)) else none
set_option maxRecDepth 100000 in
set_option maxHeartbeats 4000000 in
theorem e_X11_isSleeperLetter_J106 {X : mXs} (s0 : Int32) (w : mW) (res : Int32 × mW) (h : f_X11_isSleeperLetter_J106 s0 w = some res) : mEv X M_X11_isSleeperLetter 2 (some (vi res.1)) res.2 106 [none, none, none] [vi s0] w := by
  unfold f_X11_isSleeperLetter_J106 at h
  by_cases hz : s0 = 0 ∨ s0 = 1
  · rw [if_pos hz] at h
    cases h
    exact ev_zret dX11_isSleeperLetter_106 rfl hz
  · rw [if_neg hz] at h
    cases h
def f_X11_isSleeperLetter_J105 (w : mW) : Option (Int32 × mW) := f_X11_isSleeperLetter_J106 (0 : Int32) w
set_option maxRecDepth 100000 in
set_option maxHeartbeats 4000000 in
theorem e_X11_isSleeperLetter_J105 {X : mXs} (w : mW) (res : Int32 × mW) (h : f_X11_isSleeperLetter_J105 w = some res) : mEv X M_X11_isSleeperLetter 2 (some (vi res.1)) res.2 105 [none, none, none] [] w := by
  unfold f_X11_isSleeperLetter_J105 at h
  refine ev_iconst (q := 106) (v := (0 : Int32)) dX11_isSleeperLetter_105 rfl (by decide) ?_
  exact ev_weak _ (mLe_none (mLe_none (mLe_none mLe_nil))) (e_X11_isSleeperLetter_J106 (0 : Int32) w _ h)
def f_X11_isSleeperLetter_J75 (s0 : Int32) (w : mW) : Option (Int32 × mW) := if s0 = 0 ∨ s0 = 1 then some ((s0, w)) else none
set_option maxRecDepth 100000 in
set_option maxHeartbeats 4000000 in
theorem e_X11_isSleeperLetter_J75 {X : mXs} (s0 : Int32) (w : mW) (res : Int32 × mW) (h : f_X11_isSleeperLetter_J75 s0 w = some res) : mEv X M_X11_isSleeperLetter 2 (some (vi res.1)) res.2 75 [none, none, none] [vi s0] w := by
  unfold f_X11_isSleeperLetter_J75 at h
  by_cases hz : s0 = 0 ∨ s0 = 1
  · rw [if_pos hz] at h
    cases h
    exact ev_zret dX11_isSleeperLetter_75 rfl hz
  · rw [if_neg hz] at h
    cases h
def f_X11_isSleeperLetter_J74 (w : mW) : Option (Int32 × mW) := f_X11_isSleeperLetter_J75 (0 : Int32) w
set_option maxRecDepth 100000 in
set_option maxHeartbeats 4000000 in
theorem e_X11_isSleeperLetter_J74 {X : mXs} (w : mW) (res : Int32 × mW) (h : f_X11_isSleeperLetter_J74 w = some res) : mEv X M_X11_isSleeperLetter 2 (some (vi res.1)) res.2 74 [none, none, none] [] w := by
  unfold f_X11_isSleeperLetter_J74 at h
  refine ev_iconst (q := 75) (v := (0 : Int32)) dX11_isSleeperLetter_74 rfl (by decide) ?_
  exact ev_weak _ (mLe_none (mLe_none (mLe_none mLe_nil))) (e_X11_isSleeperLetter_J75 (0 : Int32) w _ h)
def f_X11_isSleeperLetter (o : Nat) (v1 : Int32) (w : mW) : Option (Int32 × mW) := Option.bind (gR w (some o) 11 0) fun r1 => Option.bind (aL w r1 v1) fun r2 => if v1 - v1 / (3 : Int32) * (3 : Int32) = 0 then (Option.bind (f_X11_in r2.toInt64 (48 : Int64) (53 : Int64) w) fun r3 => if r3 = 0 ∨ r3 = 1 then some ((r3, w)) else none) else (if v1 - v1 / (3 : Int32) * (3 : Int32) = 1 then (Option.bind (f_X11_in r2.toInt64 (48 : Int64) (53 : Int64) w) fun r4 => if r4 = 0 then (f_X11_isSleeperLetter_J74 w) else (Option.bind (kO w (some o) 11) fun _ => Option.bind (f_X11_isNew o v1 w) fun r5 => if r5 = 0 then (f_X11_isSleeperLetter_J74 w) else (f_X11_isSleeperLetter_J75 (1 : Int32) w))) else (if r2 = (59 : Int32) then (Option.bind (pI w (some o) 11 2 v1) fun w7 => some (((1 : Int32), w7))) else (if r2 = (44 : Int32) then (if (17 : Int32) ≤ v1 then (f_X11_isSleeperLetter_J105 w) else (f_X11_isSleeperLetter_J106 (1 : Int32) w)) else (f_X11_isSleeperLetter_J105 w))))
set_option maxRecDepth 100000 in
set_option maxHeartbeats 4000000 in
theorem met_X11_isSleeperLetter (o : Nat) (v1 : Int32) (w : mW) (res : Int32 × mW) (h : f_X11_isSleeperLetter o v1 w = some res) : mMet M_X11_isSleeperLetter 2 [vr ((some o)), vi v1] w (some (vi res.1)) res.2 := by
  refine ev_met (n := 1) (by decide) rfl fun X => ?_
  unfold f_X11_isSleeperLetter at h
  show mEv X M_X11_isSleeperLetter 2 _ _ 0 [some (vr ((some o))), some (vi v1), none] [] w
  refine ev_aload_n (q := 1) dX11_isSleeperLetter_0 rfl rfl ?_
  replace h := Option.bind_eq_some_iff.mp h; obtain ⟨r1, hr1, h⟩ := h
  refine ev_gR dX11_isSleeperLetter_1 fl_X11_7 hr1 rfl ?_
  refine ev_iload_n (q := 5) dX11_isSleeperLetter_4 rfl rfl ?_
  replace h := Option.bind_eq_some_iff.mp h; obtain ⟨r2, hr2, h⟩ := h
  refine ev_aL dX11_isSleeperLetter_5 hr2 rfl ?_
  refine ev_istore_n (q := 7) dX11_isSleeperLetter_6 rfl (by decide) ?_
  refine ev_iload_n (q := 8) dX11_isSleeperLetter_7 rfl rfl ?_
  refine ev_iconst (q := 9) (v := (3 : Int32)) dX11_isSleeperLetter_8 rfl (by decide) ?_
  refine ev_irem (q := 10) dX11_isSleeperLetter_9 rfl (by decide) ?_
  by_cases hc0 : v1 - v1 / (3 : Int32) * (3 : Int32) = 0
  · rw [if_pos hc0] at h
    refine ev_lookup (q := 36) (off := 26) dX11_isSleeperLetter_10 (by decide) (by rw [hc0]; rfl) (by decide) ?_
    refine ev_iload_n (q := 37) dX11_isSleeperLetter_36 rfl rfl ?_
    refine ev_i2l (q := 38) dX11_isSleeperLetter_37 rfl ?_
    refine ev_ldc2 (q := 41) (v := (48 : Int64)) dX11_isSleeperLetter_38 rfl tw_973 ?_
    refine ev_ldc2 (q := 44) (v := (53 : Int64)) dX11_isSleeperLetter_41 rfl tw_974 ?_
    replace h := Option.bind_eq_some_iff.mp h; obtain ⟨r3, hr3, h⟩ := h
    refine ev_invS (M1 := M_X11_in) (as := [vl r2.toInt64, vl ((48 : Int64)), vl ((53 : Int64))]) dX11_isSleeperLetter_44 rfl tw_954 cal_X11_in tw_955 (by decide) rfl rfl (Nat.le_of_ble_eq_true rfl) (met_X11_in r2.toInt64 (48 : Int64) (53 : Int64) w _ hr3) ?_
    by_cases hz : r3 = 0 ∨ r3 = 1
    · rw [if_pos hz] at h
      cases h
      exact ev_zret dX11_isSleeperLetter_47 rfl hz
    · rw [if_neg hz] at h
      cases h
  · rw [if_neg hc0] at h
    by_cases hc1 : v1 - v1 / (3 : Int32) * (3 : Int32) = 1
    · rw [if_pos hc1] at h
      refine ev_lookup (q := 48) (off := 38) dX11_isSleeperLetter_10 (by decide) (by rw [hc1]; rfl) (by decide) ?_
      refine ev_iload_n (q := 49) dX11_isSleeperLetter_48 rfl rfl ?_
      refine ev_i2l (q := 50) dX11_isSleeperLetter_49 rfl ?_
      refine ev_ldc2 (q := 53) (v := (48 : Int64)) dX11_isSleeperLetter_50 rfl tw_973 ?_
      refine ev_ldc2 (q := 56) (v := (53 : Int64)) dX11_isSleeperLetter_53 rfl tw_974 ?_
      replace h := Option.bind_eq_some_iff.mp h; obtain ⟨r4, hr4, h⟩ := h
      refine ev_invS (M1 := M_X11_in) (as := [vl r2.toInt64, vl ((48 : Int64)), vl ((53 : Int64))]) dX11_isSleeperLetter_56 rfl tw_954 cal_X11_in tw_955 (by decide) rfl rfl (Nat.le_of_ble_eq_true rfl) (met_X11_in r2.toInt64 (48 : Int64) (53 : Int64) w _ hr4) ?_
      by_cases hc : r4 = 0
      · rw [if_pos hc] at h
        refine ev_if_eq_t (q := 74) dX11_isSleeperLetter_59 (by decide) hc ?_
        exact ev_weak _ (mLe_none (mLe_none (mLe_none mLe_nil))) (e_X11_isSleeperLetter_J74 w _ h)
      · rw [if_neg hc] at h
        refine ev_if_eq_f (q := 62) (t0 := 74) dX11_isSleeperLetter_59 (by decide) rfl hc ?_
        refine ev_aload_n (q := 63) dX11_isSleeperLetter_62 rfl rfl ?_
        refine ev_iload_n (q := 64) dX11_isSleeperLetter_63 rfl rfl ?_
        replace h := Option.bind_eq_some_iff.mp h; obtain ⟨q6, hq6, h⟩ := h
        obtain ⟨hxq6, fsq6, hkq6⟩ := kO_spec hq6
        cases hxq6
        replace h := Option.bind_eq_some_iff.mp h; obtain ⟨r5, hr5, h⟩ := h
        refine ev_invV (M1 := M_X11_isNew) (as := [vi v1]) (fs := fsq6) (ci := 11) dX11_isSleeperLetter_64 rfl tw_975 cal_X11_isNew tw_977 tw_31 (by decide) rfl rfl (Nat.le_of_ble_eq_true rfl) hkq6 rfl (met_X11_isNew o v1 w _ hr5) ?_
        by_cases hc : r5 = 0
        · rw [if_pos hc] at h
          refine ev_if_eq_t (q := 74) dX11_isSleeperLetter_67 (by decide) hc ?_
          exact ev_weak _ (mLe_none (mLe_none (mLe_none mLe_nil))) (e_X11_isSleeperLetter_J74 w _ h)
        · rw [if_neg hc] at h
          refine ev_if_eq_f (q := 70) (t0 := 74) dX11_isSleeperLetter_67 (by decide) rfl hc ?_
          refine ev_iconst (q := 71) (v := (1 : Int32)) dX11_isSleeperLetter_70 rfl (by decide) ?_
          refine ev_goto (q := 75) dX11_isSleeperLetter_71 (by decide) ?_
          exact ev_weak _ (mLe_none (mLe_none (mLe_none mLe_nil))) (e_X11_isSleeperLetter_J75 (1 : Int32) w _ h)
    · rw [if_neg hc1] at h
      refine ev_lookup (q := 76) (off := 66) dX11_isSleeperLetter_10 (by decide) (by have z0 := mNe (z := 0) (by decide) hc0; have z1 := mNe (z := 1) (by decide) hc1; simp only [lookupswitch.offset]; rw [if_neg (fun e => z0 e.symm)]; rw [if_neg (fun e => z1 e.symm)]) (by decide) ?_
      refine ev_iload_n (q := 77) dX11_isSleeperLetter_76 rfl rfl ?_
      refine ev_bipush (q := 79) (v := (59 : Int32)) dX11_isSleeperLetter_77 rfl (by decide) ?_
      by_cases hc : r2 = (59 : Int32)
      · rw [if_pos hc] at h
        refine ev_icmp_ne_f (q := 82) (t0 := 89) dX11_isSleeperLetter_79 (by decide) rfl hc ?_
        refine ev_aload_n (q := 83) dX11_isSleeperLetter_82 rfl rfl ?_
        refine ev_iload_n (q := 84) dX11_isSleeperLetter_83 rfl rfl ?_
        replace h := Option.bind_eq_some_iff.mp h; obtain ⟨w7, hw7, h⟩ := h
        refine ev_pI dX11_isSleeperLetter_84 fp_X11_98 hw7 rfl ?_
        refine ev_iconst (q := 88) (v := (1 : Int32)) dX11_isSleeperLetter_87 rfl (by decide) ?_
        cases h
        exact ev_zret dX11_isSleeperLetter_88 rfl (Or.inr rfl)
      · rw [if_neg hc] at h
        refine ev_icmp_ne_t (q := 89) dX11_isSleeperLetter_79 (by decide) hc ?_
        refine ev_iload_n (q := 90) dX11_isSleeperLetter_89 rfl rfl ?_
        refine ev_bipush (q := 92) (v := (44 : Int32)) dX11_isSleeperLetter_90 rfl (by decide) ?_
        by_cases hc : r2 = (44 : Int32)
        · rw [if_pos hc] at h
          refine ev_icmp_ne_f (q := 95) (t0 := 105) dX11_isSleeperLetter_92 (by decide) rfl hc ?_
          refine ev_iload_n (q := 96) dX11_isSleeperLetter_95 rfl rfl ?_
          refine ev_bipush (q := 98) (v := (17 : Int32)) dX11_isSleeperLetter_96 rfl (by decide) ?_
          by_cases hc : (17 : Int32) ≤ v1
          · rw [if_pos hc] at h
            refine ev_icmp_ge_t (q := 105) dX11_isSleeperLetter_98 (by decide) hc ?_
            exact ev_weak _ (mLe_none (mLe_none (mLe_none mLe_nil))) (e_X11_isSleeperLetter_J105 w _ h)
          · rw [if_neg hc] at h
            refine ev_icmp_ge_f (q := 101) (t0 := 105) dX11_isSleeperLetter_98 (by decide) rfl hc ?_
            refine ev_iconst (q := 102) (v := (1 : Int32)) dX11_isSleeperLetter_101 rfl (by decide) ?_
            refine ev_goto (q := 106) dX11_isSleeperLetter_102 (by decide) ?_
            exact ev_weak _ (mLe_none (mLe_none (mLe_none mLe_nil))) (e_X11_isSleeperLetter_J106 (1 : Int32) w _ h)
        · rw [if_neg hc] at h
          refine ev_icmp_ne_t (q := 105) dX11_isSleeperLetter_92 (by decide) hc ?_
          exact ev_weak _ (mLe_none (mLe_none (mLe_none mLe_nil))) (e_X11_isSleeperLetter_J105 w _ h)
def f_X11_landsBy (o : Nat) (v1 : Int32) (v2 : Int32) (v3 : Int32) (w : mW) : Option (Int32) := Option.bind (gR w (some o) 11 15) fun r1 => Option.bind (aL w r1 v1) fun r2 => Option.bind (gR w (some o) 11 16) fun r3 => Option.bind (aL w r3 v1) fun r4 => Option.bind (f_X11_cellOf (((v2 / (6 : Int32)) + r2) - (2 : Int32)) ((((v2 - v2 / (6 : Int32) * (6 : Int32)) + r4) - (2 : Int32)) + v3) w) fun r5 => some (r5)
set_option maxRecDepth 100000 in
set_option maxHeartbeats 4000000 in
theorem met_X11_landsBy (o : Nat) (v1 : Int32) (v2 : Int32) (v3 : Int32) (w : mW) (res : Int32) (h : f_X11_landsBy o v1 v2 v3 w = some res) : mMet M_X11_landsBy 2 [vr ((some o)), vi v1, vi v2, vi v3] w (some (vi res)) w := by
  refine ev_met (n := 0) (by decide) rfl fun X => ?_
  unfold f_X11_landsBy at h
  show mEv X M_X11_landsBy 2 _ _ 0 [some (vr ((some o))), some (vi v1), some (vi v2), some (vi v3)] [] w
  refine ev_iload_n (q := 1) dX11_landsBy_0 rfl rfl ?_
  refine ev_bipush (q := 3) (v := (6 : Int32)) dX11_landsBy_1 rfl (by decide) ?_
  refine ev_idiv (q := 4) dX11_landsBy_3 rfl (by decide) ?_
  refine ev_aload_n (q := 5) dX11_landsBy_4 rfl rfl ?_
  replace h := Option.bind_eq_some_iff.mp h; obtain ⟨r1, hr1, h⟩ := h
  refine ev_gR dX11_landsBy_5 fl_X11_28 hr1 rfl ?_
  refine ev_iload_n (q := 9) dX11_landsBy_8 rfl rfl ?_
  replace h := Option.bind_eq_some_iff.mp h; obtain ⟨r2, hr2, h⟩ := h
  refine ev_aL dX11_landsBy_9 hr2 rfl ?_
  refine ev_iadd (q := 11) dX11_landsBy_10 rfl ?_
  refine ev_iconst (q := 12) (v := (2 : Int32)) dX11_landsBy_11 rfl (by decide) ?_
  refine ev_isub (q := 13) dX11_landsBy_12 rfl ?_
  refine ev_iload_n (q := 14) dX11_landsBy_13 rfl rfl ?_
  refine ev_bipush (q := 16) (v := (6 : Int32)) dX11_landsBy_14 rfl (by decide) ?_
  refine ev_irem (q := 17) dX11_landsBy_16 rfl (by decide) ?_
  refine ev_aload_n (q := 18) dX11_landsBy_17 rfl rfl ?_
  replace h := Option.bind_eq_some_iff.mp h; obtain ⟨r3, hr3, h⟩ := h
  refine ev_gR dX11_landsBy_18 fl_X11_31 hr3 rfl ?_
  refine ev_iload_n (q := 22) dX11_landsBy_21 rfl rfl ?_
  replace h := Option.bind_eq_some_iff.mp h; obtain ⟨r4, hr4, h⟩ := h
  refine ev_aL dX11_landsBy_22 hr4 rfl ?_
  refine ev_iadd (q := 24) dX11_landsBy_23 rfl ?_
  refine ev_iconst (q := 25) (v := (2 : Int32)) dX11_landsBy_24 rfl (by decide) ?_
  refine ev_isub (q := 26) dX11_landsBy_25 rfl ?_
  refine ev_iload_n (q := 27) dX11_landsBy_26 rfl rfl ?_
  refine ev_iadd (q := 28) dX11_landsBy_27 rfl ?_
  replace h := Option.bind_eq_some_iff.mp h; obtain ⟨r5, hr5, h⟩ := h
  refine ev_invS (M1 := M_X11_cellOf) (as := [vi (((v2 / (6 : Int32)) + r2) - (2 : Int32)), vi ((((v2 - v2 / (6 : Int32) * (6 : Int32)) + r4) - (2 : Int32)) + v3)]) dX11_landsBy_28 rfl tw_1011 cal_X11_cellOf tw_1012 (by decide) rfl rfl (Nat.le_of_ble_eq_true rfl) (met_X11_cellOf (((v2 / (6 : Int32)) + r2) - (2 : Int32)) ((((v2 - v2 / (6 : Int32) * (6 : Int32)) + r4) - (2 : Int32)) + v3) w _ hr5) ?_
  cases h
  exact ev_iret dX11_landsBy_31 rfl rfl
def f_X11_layRow_J91 (kc : Int32 → Int32 → mW → Option (mW)) (o : Nat) (v2 : Int32) (v3 : Int32) (w : mW) : Option (mW) := kc v2 (v3 + (1 : Int32)) w
set_option maxRecDepth 100000 in
set_option maxHeartbeats 4000000 in
theorem e_X11_layRow_J91 {X : mXs} {r : Option mV} {w' : mW} (P : (mW) → Prop) (o : Nat) (v2 : Int32) (v3 : Int32) (w : mW) (kc : Int32 → Int32 → mW → Option (mW)) (hk : ∀ (u2 : Int32) (u3 : Int32) (uw : mW) (e : mW), kc u2 u3 uw = some e → P e → mEv X M_X11_layRow 2 r w' 9 [some (vr ((some o))), none, some (vi u2), some (vi u3), none] [] uw) (e : mW) (h : f_X11_layRow_J91 kc o v2 v3 w = some e) (hP : P e) : mEv X M_X11_layRow 2 r w' 91 [some (vr ((some o))), none, some (vi v2), some (vi v3), none] [] w := by
  unfold f_X11_layRow_J91 at h
  refine ev_iinc (q := 94) (v := v3 + (1 : Int32)) dX11_layRow_91 rfl (by decide) rfl (by rfl) ?_
  refine ev_goto (q := 9) dX11_layRow_94 (by decide) ?_
  exact ev_weak _ (mLe_some (mLe_none (mLe_some (mLe_some (mLe_none mLe_nil))))) (hk v2 (v3 + (1 : Int32)) w _ h hP)
def f_X11_layRow_L9 (o : Nat) : Nat → Int32 → Int32 → mW → Option (mW)
  | 0, _, _, _ => none
  | n + 1, v2, v3, w => if v2 ≤ 0 then (some (w)) else (Option.bind (kO w (some o) 11) fun _ => Option.bind (f_X11_priceOf o v3 w) fun r1 => Option.bind (gR w (some o) 11 19) fun r3 => Option.bind (gR w (some o) 11 18) fun r4 => Option.bind (aL w r4 v3) fun r5 => Option.bind (aL w r3 ((((64 : Int32) * v3) + (64 : Int32)) + (v2 &&& (r5 ^^^ (-1 : Int32))))) fun r6 => Option.bind (gR w (some o) 11 19) fun r7 => Option.bind (aL w r7 (((64 : Int32) * v3) + v2)) fun r8 => if r1 + r6 = r8 then (Option.bind (gR w (some o) 11 20) fun r9 => Option.bind (gI w (some o) 11 21) fun r10 => Option.bind (aS w r9 r10 v3) fun w11 => Option.bind (gI w11 (some o) 11 21) fun r12 => Option.bind (pI w11 (some o) 11 21 (r12 + (1 : Int32))) fun w13 => Option.bind (gR w13 (some o) 11 18) fun r14 => Option.bind (aL w13 r14 v3) fun r15 => f_X11_layRow_J91 (f_X11_layRow_L9 o n) o (v2 &&& (r15 ^^^ (-1 : Int32))) v3 w13) else (f_X11_layRow_J91 (f_X11_layRow_L9 o n) o v2 v3 w))
set_option maxRecDepth 100000 in
set_option maxHeartbeats 4000000 in
theorem e_X11_layRow_L9 {X : mXs} {r : Option mV} {w' : mW} (P : (mW) → Prop) (o : Nat) (hexit : ∀ y, P y → mEv X M_X11_layRow 2 r w' 97 [none, none, none, none, none] [] y) : ∀ (n : Nat) (v2 : Int32) (v3 : Int32) (w : mW) (e : mW), f_X11_layRow_L9 o n v2 v3 w = some e → P e → mEv X M_X11_layRow 2 r w' 9 [some (vr ((some o))), none, some (vi v2), some (vi v3), none] [] w := by
  intro n
  induction n with
  | zero =>
    intro v2 v3 w e h hP
    rw [f_X11_layRow_L9] at h
    cases h
  | succ n hk =>
    intro v2 v3 w e h hP
    rw [f_X11_layRow_L9] at h
    refine ev_iload_n (q := 10) dX11_layRow_9 rfl rfl ?_
    by_cases hc : v2 ≤ 0
    · rw [if_pos hc] at h
      refine ev_if_le_t (q := 97) dX11_layRow_10 (by decide) hc ?_
      cases h
      exact ev_weak _ (mLe_none (mLe_none (mLe_none (mLe_none (mLe_none mLe_nil))))) (hexit _ hP)
    · rw [if_neg hc] at h
      refine ev_if_le_f (q := 13) (t0 := 97) dX11_layRow_10 (by decide) rfl hc ?_
      refine ev_aload_n (q := 14) dX11_layRow_13 rfl rfl ?_
      refine ev_iload_n (q := 15) dX11_layRow_14 rfl rfl ?_
      replace h := Option.bind_eq_some_iff.mp h; obtain ⟨q2, hq2, h⟩ := h
      obtain ⟨hxq2, fsq2, hkq2⟩ := kO_spec hq2
      cases hxq2
      replace h := Option.bind_eq_some_iff.mp h; obtain ⟨r1, hr1, h⟩ := h
      refine ev_invV (M1 := M_X11_priceOf) (as := [vi v3]) (fs := fsq2) (ci := 11) dX11_layRow_15 rfl tw_1140 cal_X11_priceOf tw_1142 tw_51 (by decide) rfl rfl (Nat.le_of_ble_eq_true rfl) hkq2 rfl (met_X11_priceOf o v3 w _ hr1) ?_
      refine ev_aload_n (q := 19) dX11_layRow_18 rfl rfl ?_
      replace h := Option.bind_eq_some_iff.mp h; obtain ⟨r3, hr3, h⟩ := h
      refine ev_gR dX11_layRow_19 fl_X11_40 hr3 rfl ?_
      refine ev_bipush (q := 24) (v := (64 : Int32)) dX11_layRow_22 rfl (by decide) ?_
      refine ev_iload_n (q := 25) dX11_layRow_24 rfl rfl ?_
      refine ev_imul (q := 26) dX11_layRow_25 rfl ?_
      refine ev_bipush (q := 28) (v := (64 : Int32)) dX11_layRow_26 rfl (by decide) ?_
      refine ev_iadd (q := 29) dX11_layRow_28 rfl ?_
      refine ev_iload_n (q := 30) dX11_layRow_29 rfl rfl ?_
      refine ev_aload_n (q := 31) dX11_layRow_30 rfl rfl ?_
      replace h := Option.bind_eq_some_iff.mp h; obtain ⟨r4, hr4, h⟩ := h
      refine ev_gR dX11_layRow_31 fl_X11_37 hr4 rfl ?_
      refine ev_iload_n (q := 35) dX11_layRow_34 rfl rfl ?_
      replace h := Option.bind_eq_some_iff.mp h; obtain ⟨r5, hr5, h⟩ := h
      refine ev_aL dX11_layRow_35 hr5 rfl ?_
      refine ev_iconst (q := 37) (v := (-1 : Int32)) dX11_layRow_36 rfl (by decide) ?_
      refine ev_ixor (q := 38) dX11_layRow_37 rfl ?_
      refine ev_iand (q := 39) dX11_layRow_38 rfl ?_
      refine ev_iadd (q := 40) dX11_layRow_39 rfl ?_
      replace h := Option.bind_eq_some_iff.mp h; obtain ⟨r6, hr6, h⟩ := h
      refine ev_aL dX11_layRow_40 hr6 rfl ?_
      refine ev_iadd (q := 42) dX11_layRow_41 rfl ?_
      refine ev_istore (q := 44) dX11_layRow_42 rfl (by decide) ?_
      refine ev_iload (q := 46) dX11_layRow_44 rfl rfl ?_
      refine ev_aload_n (q := 47) dX11_layRow_46 rfl rfl ?_
      replace h := Option.bind_eq_some_iff.mp h; obtain ⟨r7, hr7, h⟩ := h
      refine ev_gR dX11_layRow_47 fl_X11_40 hr7 rfl ?_
      refine ev_bipush (q := 52) (v := (64 : Int32)) dX11_layRow_50 rfl (by decide) ?_
      refine ev_iload_n (q := 53) dX11_layRow_52 rfl rfl ?_
      refine ev_imul (q := 54) dX11_layRow_53 rfl ?_
      refine ev_iload_n (q := 55) dX11_layRow_54 rfl rfl ?_
      refine ev_iadd (q := 56) dX11_layRow_55 rfl ?_
      replace h := Option.bind_eq_some_iff.mp h; obtain ⟨r8, hr8, h⟩ := h
      refine ev_aL dX11_layRow_56 hr8 rfl ?_
      by_cases hc : r1 + r6 = r8
      · rw [if_pos hc] at h
        refine ev_icmp_ne_f (q := 60) (t0 := 91) dX11_layRow_57 (by decide) rfl hc ?_
        refine ev_aload_n (q := 61) dX11_layRow_60 rfl rfl ?_
        replace h := Option.bind_eq_some_iff.mp h; obtain ⟨r9, hr9, h⟩ := h
        refine ev_gR dX11_layRow_61 fl_X11_43 hr9 rfl ?_
        refine ev_aload_n (q := 65) dX11_layRow_64 rfl rfl ?_
        replace h := Option.bind_eq_some_iff.mp h; obtain ⟨r10, hr10, h⟩ := h
        refine ev_gI dX11_layRow_65 fl_X11_223 hr10 rfl ?_
        refine ev_iload_n (q := 69) dX11_layRow_68 rfl rfl ?_
        replace h := Option.bind_eq_some_iff.mp h; obtain ⟨w11, hw11, h⟩ := h
        refine ev_aS dX11_layRow_69 hw11 rfl ?_
        refine ev_aload_n (q := 71) dX11_layRow_70 rfl rfl ?_
        refine ev_dup (q := 72) dX11_layRow_71 rfl rfl ?_
        replace h := Option.bind_eq_some_iff.mp h; obtain ⟨r12, hr12, h⟩ := h
        refine ev_gI dX11_layRow_72 fl_X11_223 hr12 rfl ?_
        refine ev_iconst (q := 76) (v := (1 : Int32)) dX11_layRow_75 rfl (by decide) ?_
        refine ev_iadd (q := 77) dX11_layRow_76 rfl ?_
        replace h := Option.bind_eq_some_iff.mp h; obtain ⟨w13, hw13, h⟩ := h
        refine ev_pI dX11_layRow_77 fp_X11_223 hw13 rfl ?_
        refine ev_iload_n (q := 81) dX11_layRow_80 rfl rfl ?_
        refine ev_aload_n (q := 82) dX11_layRow_81 rfl rfl ?_
        replace h := Option.bind_eq_some_iff.mp h; obtain ⟨r14, hr14, h⟩ := h
        refine ev_gR dX11_layRow_82 fl_X11_37 hr14 rfl ?_
        refine ev_iload_n (q := 86) dX11_layRow_85 rfl rfl ?_
        replace h := Option.bind_eq_some_iff.mp h; obtain ⟨r15, hr15, h⟩ := h
        refine ev_aL dX11_layRow_86 hr15 rfl ?_
        refine ev_iconst (q := 88) (v := (-1 : Int32)) dX11_layRow_87 rfl (by decide) ?_
        refine ev_ixor (q := 89) dX11_layRow_88 rfl ?_
        refine ev_iand (q := 90) dX11_layRow_89 rfl ?_
        refine ev_istore_n (q := 91) dX11_layRow_90 rfl (by decide) ?_
        exact ev_weak _ (mLe_some (mLe_none (mLe_some (mLe_some (mLe_none mLe_nil))))) (e_X11_layRow_J91 P o (v2 &&& (r15 ^^^ (-1 : Int32))) v3 w13 _ hk  _ h hP)
      · rw [if_neg hc] at h
        refine ev_icmp_ne_t (q := 91) dX11_layRow_57 (by decide) hc ?_
        exact ev_weak _ (mLe_some (mLe_none (mLe_some (mLe_some (mLe_none mLe_nil))))) (e_X11_layRow_J91 P o v2 v3 w _ hk  _ h hP)
def f_X11_layRow (o : Nat) (v1 : Int32) (w : mW) : Option (mW) := Option.bind (pI w (some o) 11 21 (0 : Int32)) fun w16 => Option.bind (f_X11_layRow_L9 o mFuel v1 (0 : Int32) w16) fun e17 => some (e17)
set_option maxRecDepth 100000 in
set_option maxHeartbeats 4000000 in
theorem met_X11_layRow (o : Nat) (v1 : Int32) (w : mW) (res : mW) (h : f_X11_layRow o v1 w = some res) : mMet M_X11_layRow 2 [vr ((some o)), vi v1] w none res := by
  refine ev_met (n := 3) (by decide) rfl fun X => ?_
  unfold f_X11_layRow at h
  show mEv X M_X11_layRow 2 _ _ 0 [some (vr ((some o))), some (vi v1), none, none, none] [] w
  refine ev_aload_n (q := 1) dX11_layRow_0 rfl rfl ?_
  refine ev_iconst (q := 2) (v := (0 : Int32)) dX11_layRow_1 rfl (by decide) ?_
  replace h := Option.bind_eq_some_iff.mp h; obtain ⟨w16, hw16, h⟩ := h
  refine ev_pI dX11_layRow_2 fp_X11_223 hw16 rfl ?_
  refine ev_iload_n (q := 6) dX11_layRow_5 rfl rfl ?_
  refine ev_istore_n (q := 7) dX11_layRow_6 rfl (by decide) ?_
  refine ev_iconst (q := 8) (v := (0 : Int32)) dX11_layRow_7 rfl (by decide) ?_
  refine ev_istore_n (q := 9) dX11_layRow_8 rfl (by decide) ?_
  replace h := Option.bind_eq_some_iff.mp h; obtain ⟨e17, he17, h⟩ := h
  refine ev_weak _ (mLe_some (mLe_none (mLe_some (mLe_some (mLe_none mLe_nil))))) (e_X11_layRow_L9 (fun z => e17 = z) o (fun e17q hq => ?_) mFuel v1 (0 : Int32) w16 _ he17 rfl)
  subst hq
  cases h
  exact ev_vret dX11_layRow_97 rfl
def f_X11_move_J15 (w : mW) : Option (Int32 × mW) := some (((-101 : Int32), w))
set_option maxRecDepth 100000 in
set_option maxHeartbeats 4000000 in
theorem e_X11_move_J15 {X : mXs} (w : mW) (res : Int32 × mW) (h : f_X11_move_J15 w = some res) : mEv X M_X11_move 2 (some (vi res.1)) res.2 15 [none, none, none, none] [] w := by
  unfold f_X11_move_J15 at h
  refine ev_bipush (q := 17) (v := (-101 : Int32)) dX11_move_15 rfl (by decide) ?_
  cases h
  exact ev_iret dX11_move_17 rfl rfl
def f_X11_move (o : Nat) (v1 : Int32) (v2 : Int32) (w : mW) : Option (Int32 × mW) := Option.bind (kO w (some o) 11) fun _ => Option.bind (f_X11_isSleeper o v1 w) fun r1 => if r1 = 0 then (f_X11_move_J15 w) else (Option.bind (f_X11_isCell v2 w) fun r3 => if r3 = 0 then (f_X11_move_J15 w) else (Option.bind (kO w (some o) 11) fun _ => Option.bind (f_X11_isFreeFor o v1 v2 w) fun r4 => if r4 = 0 then (some (((-103 : Int32), w))) else (Option.bind (gR w (some o) 11 10) fun r6 => Option.bind (aL w r6 v1) fun r7 => Option.bind (gR w (some o) 11 10) fun r8 => Option.bind (aS w r8 v1 v2) fun w9 => Option.bind (gR w9 (some o) 11 11) fun r10 => Option.bind (aS w9 r10 v1 (0 : Int32)) fun w11 => some ((r7, w11)))))
set_option maxRecDepth 100000 in
set_option maxHeartbeats 4000000 in
theorem met_X11_move (o : Nat) (v1 : Int32) (v2 : Int32) (w : mW) (res : Int32 × mW) (h : f_X11_move o v1 v2 w = some res) : mMet M_X11_move 2 [vr ((some o)), vi v1, vi v2] w (some (vi res.1)) res.2 := by
  refine ev_met (n := 1) (by decide) rfl fun X => ?_
  unfold f_X11_move at h
  show mEv X M_X11_move 2 _ _ 0 [some (vr ((some o))), some (vi v1), some (vi v2), none] [] w
  refine ev_aload_n (q := 1) dX11_move_0 rfl rfl ?_
  refine ev_iload_n (q := 2) dX11_move_1 rfl rfl ?_
  replace h := Option.bind_eq_some_iff.mp h; obtain ⟨q2, hq2, h⟩ := h
  obtain ⟨hxq2, fsq2, hkq2⟩ := kO_spec hq2
  cases hxq2
  replace h := Option.bind_eq_some_iff.mp h; obtain ⟨r1, hr1, h⟩ := h
  refine ev_invV (M1 := M_X11_isSleeper) (as := [vi v1]) (fs := fsq2) (ci := 11) dX11_move_2 rfl tw_1037 cal_X11_isSleeper tw_1039 tw_38 (by decide) rfl rfl (Nat.le_of_ble_eq_true rfl) hkq2 rfl (met_X11_isSleeper o v1 w _ hr1) ?_
  by_cases hc : r1 = 0
  · rw [if_pos hc] at h
    refine ev_if_eq_t (q := 15) dX11_move_5 (by decide) hc ?_
    exact ev_weak _ (mLe_none (mLe_none (mLe_none (mLe_none mLe_nil)))) (e_X11_move_J15 w _ h)
  · rw [if_neg hc] at h
    refine ev_if_eq_f (q := 8) (t0 := 15) dX11_move_5 (by decide) rfl hc ?_
    refine ev_iload_n (q := 9) dX11_move_8 rfl rfl ?_
    replace h := Option.bind_eq_some_iff.mp h; obtain ⟨r3, hr3, h⟩ := h
    refine ev_invS (M1 := M_X11_isCell) (as := [vi v2]) dX11_move_9 rfl tw_1003 cal_X11_isCell tw_1004 (by decide) rfl rfl (Nat.le_of_ble_eq_true rfl) (met_X11_isCell v2 w _ hr3) ?_
    by_cases hc : r3 = 0
    · rw [if_pos hc] at h
      refine ev_if_ne_f (q := 15) (t0 := 18) dX11_move_12 (by decide) rfl hc ?_
      exact ev_weak _ (mLe_none (mLe_none (mLe_none (mLe_none mLe_nil)))) (e_X11_move_J15 w _ h)
    · rw [if_neg hc] at h
      refine ev_if_ne_t (q := 18) dX11_move_12 (by decide) hc ?_
      refine ev_aload_n (q := 19) dX11_move_18 rfl rfl ?_
      refine ev_iload_n (q := 20) dX11_move_19 rfl rfl ?_
      refine ev_iload_n (q := 21) dX11_move_20 rfl rfl ?_
      replace h := Option.bind_eq_some_iff.mp h; obtain ⟨q5, hq5, h⟩ := h
      obtain ⟨hxq5, fsq5, hkq5⟩ := kO_spec hq5
      cases hxq5
      replace h := Option.bind_eq_some_iff.mp h; obtain ⟨r4, hr4, h⟩ := h
      refine ev_invV (M1 := M_X11_isFreeFor) (as := [vi v1, vi v2]) (fs := fsq5) (ci := 11) dX11_move_21 rfl tw_1049 cal_X11_isFreeFor tw_1051 tw_41 (by decide) rfl rfl (Nat.le_of_ble_eq_true rfl) hkq5 rfl (met_X11_isFreeFor o v1 v2 w _ hr4) ?_
      by_cases hc : r4 = 0
      · rw [if_pos hc] at h
        refine ev_if_ne_f (q := 27) (t0 := 30) dX11_move_24 (by decide) rfl hc ?_
        refine ev_bipush (q := 29) (v := (-103 : Int32)) dX11_move_27 rfl (by decide) ?_
        cases h
        exact ev_iret dX11_move_29 rfl rfl
      · rw [if_neg hc] at h
        refine ev_if_ne_t (q := 30) dX11_move_24 (by decide) hc ?_
        refine ev_aload_n (q := 31) dX11_move_30 rfl rfl ?_
        replace h := Option.bind_eq_some_iff.mp h; obtain ⟨r6, hr6, h⟩ := h
        refine ev_gR dX11_move_31 fl_X11_13 hr6 rfl ?_
        refine ev_iload_n (q := 35) dX11_move_34 rfl rfl ?_
        replace h := Option.bind_eq_some_iff.mp h; obtain ⟨r7, hr7, h⟩ := h
        refine ev_aL dX11_move_35 hr7 rfl ?_
        refine ev_istore_n (q := 37) dX11_move_36 rfl (by decide) ?_
        refine ev_aload_n (q := 38) dX11_move_37 rfl rfl ?_
        replace h := Option.bind_eq_some_iff.mp h; obtain ⟨r8, hr8, h⟩ := h
        refine ev_gR dX11_move_38 fl_X11_13 hr8 rfl ?_
        refine ev_iload_n (q := 42) dX11_move_41 rfl rfl ?_
        refine ev_iload_n (q := 43) dX11_move_42 rfl rfl ?_
        replace h := Option.bind_eq_some_iff.mp h; obtain ⟨w9, hw9, h⟩ := h
        refine ev_aS dX11_move_43 hw9 rfl ?_
        refine ev_aload_n (q := 45) dX11_move_44 rfl rfl ?_
        replace h := Option.bind_eq_some_iff.mp h; obtain ⟨r10, hr10, h⟩ := h
        refine ev_gR dX11_move_45 fl_X11_16 hr10 rfl ?_
        refine ev_iload_n (q := 49) dX11_move_48 rfl rfl ?_
        refine ev_iconst (q := 50) (v := (0 : Int32)) dX11_move_49 rfl (by decide) ?_
        replace h := Option.bind_eq_some_iff.mp h; obtain ⟨w11, hw11, h⟩ := h
        refine ev_aS dX11_move_50 hw11 rfl ?_
        refine ev_iload_n (q := 52) dX11_move_51 rfl rfl ?_
        cases h
        exact ev_iret dX11_move_52 rfl rfl
def f_X11_see_J37 (w : mW) : Option (Int32 × mW) := some (((-102 : Int32), w))
set_option maxRecDepth 100000 in
set_option maxHeartbeats 4000000 in
theorem e_X11_see_J37 {X : mXs} (w : mW) (res : Int32 × mW) (h : f_X11_see_J37 w = some res) : mEv X M_X11_see 2 (some (vi res.1)) res.2 37 [none, none, none, none] [] w := by
  unfold f_X11_see_J37 at h
  refine ev_bipush (q := 39) (v := (-102 : Int32)) dX11_see_37 rfl (by decide) ?_
  cases h
  exact ev_iret dX11_see_39 rfl rfl
def f_X11_see (o : Nat) (v1 : Int32) (v2 : Int32) (v3 : Int32) (w : mW) : Option (Int32 × mW) := Option.bind (kO w (some o) 11) fun _ => Option.bind (f_X11_isTosser o v1 w) fun r1 => if r1 = 0 then (some (((-101 : Int32), w))) else (Option.bind (f_X11_in v2.toInt64 (0 : Int64) (5 : Int64) w) fun r3 => if r3 = 0 then (f_X11_see_J37 w) else (Option.bind (f_X11_in v3.toInt64 (-1 : Int64) (5 : Int64) w) fun r4 => if r4 = 0 then (f_X11_see_J37 w) else (Option.bind (gI w (some o) 11 22) fun r5 => if r5 = (6 : Int32) then (some (((-104 : Int32), w))) else (Option.bind (gR w (some o) 11 23) fun r6 => Option.bind (gI w (some o) 11 22) fun r7 => Option.bind (aS w r6 ((3 : Int32) * r7) v1) fun w8 => Option.bind (gR w8 (some o) 11 23) fun r9 => Option.bind (gI w8 (some o) 11 22) fun r10 => Option.bind (aS w8 r9 (((3 : Int32) * r10) + (1 : Int32)) v2) fun w11 => Option.bind (gR w11 (some o) 11 23) fun r12 => Option.bind (gI w11 (some o) 11 22) fun r13 => Option.bind (aS w11 r12 (((3 : Int32) * r13) + (2 : Int32)) v3) fun w14 => Option.bind (gI w14 (some o) 11 22) fun r15 => Option.bind (pI w14 (some o) 11 22 (r15 + (1 : Int32))) fun w16 => Option.bind (gI w16 (some o) 11 22) fun r17 => some ((r17, w16))))))
set_option maxRecDepth 100000 in
set_option maxHeartbeats 4000000 in
theorem met_X11_see (o : Nat) (v1 : Int32) (v2 : Int32) (v3 : Int32) (w : mW) (res : Int32 × mW) (h : f_X11_see o v1 v2 v3 w = some res) : mMet M_X11_see 2 [vr ((some o)), vi v1, vi v2, vi v3] w (some (vi res.1)) res.2 := by
  refine ev_met (n := 0) (by decide) rfl fun X => ?_
  unfold f_X11_see at h
  show mEv X M_X11_see 2 _ _ 0 [some (vr ((some o))), some (vi v1), some (vi v2), some (vi v3)] [] w
  refine ev_aload_n (q := 1) dX11_see_0 rfl rfl ?_
  refine ev_iload_n (q := 2) dX11_see_1 rfl rfl ?_
  replace h := Option.bind_eq_some_iff.mp h; obtain ⟨q2, hq2, h⟩ := h
  obtain ⟨hxq2, fsq2, hkq2⟩ := kO_spec hq2
  cases hxq2
  replace h := Option.bind_eq_some_iff.mp h; obtain ⟨r1, hr1, h⟩ := h
  refine ev_invV (M1 := M_X11_isTosser) (as := [vi v1]) (fs := fsq2) (ci := 11) dX11_see_2 rfl tw_999 cal_X11_isTosser tw_1001 tw_34 (by decide) rfl rfl (Nat.le_of_ble_eq_true rfl) hkq2 rfl (met_X11_isTosser o v1 w _ hr1) ?_
  by_cases hc : r1 = 0
  · rw [if_pos hc] at h
    refine ev_if_ne_f (q := 8) (t0 := 11) dX11_see_5 (by decide) rfl hc ?_
    refine ev_bipush (q := 10) (v := (-101 : Int32)) dX11_see_8 rfl (by decide) ?_
    cases h
    exact ev_iret dX11_see_10 rfl rfl
  · rw [if_neg hc] at h
    refine ev_if_ne_t (q := 11) dX11_see_5 (by decide) hc ?_
    refine ev_iload_n (q := 12) dX11_see_11 rfl rfl ?_
    refine ev_i2l (q := 13) dX11_see_12 rfl ?_
    refine ev_lconst (q := 14) (v := (0 : Int64)) dX11_see_13 rfl (by decide) ?_
    refine ev_ldc2 (q := 17) (v := (5 : Int64)) dX11_see_14 rfl tw_1014 ?_
    replace h := Option.bind_eq_some_iff.mp h; obtain ⟨r3, hr3, h⟩ := h
    refine ev_invS (M1 := M_X11_in) (as := [vl v2.toInt64, vl ((0 : Int64)), vl ((5 : Int64))]) dX11_see_17 rfl tw_954 cal_X11_in tw_955 (by decide) rfl rfl (Nat.le_of_ble_eq_true rfl) (met_X11_in v2.toInt64 (0 : Int64) (5 : Int64) w _ hr3) ?_
    by_cases hc : r3 = 0
    · rw [if_pos hc] at h
      refine ev_if_eq_t (q := 37) dX11_see_20 (by decide) hc ?_
      exact ev_weak _ (mLe_none (mLe_none (mLe_none (mLe_none mLe_nil)))) (e_X11_see_J37 w _ h)
    · rw [if_neg hc] at h
      refine ev_if_eq_f (q := 23) (t0 := 37) dX11_see_20 (by decide) rfl hc ?_
      refine ev_iload_n (q := 24) dX11_see_23 rfl rfl ?_
      refine ev_i2l (q := 25) dX11_see_24 rfl ?_
      refine ev_ldc2 (q := 28) (v := (-1 : Int64)) dX11_see_25 rfl tw_1103 ?_
      refine ev_ldc2 (q := 31) (v := (5 : Int64)) dX11_see_28 rfl tw_1014 ?_
      replace h := Option.bind_eq_some_iff.mp h; obtain ⟨r4, hr4, h⟩ := h
      refine ev_invS (M1 := M_X11_in) (as := [vl v3.toInt64, vl ((-1 : Int64)), vl ((5 : Int64))]) dX11_see_31 rfl tw_954 cal_X11_in tw_955 (by decide) rfl rfl (Nat.le_of_ble_eq_true rfl) (met_X11_in v3.toInt64 (-1 : Int64) (5 : Int64) w _ hr4) ?_
      by_cases hc : r4 = 0
      · rw [if_pos hc] at h
        refine ev_if_ne_f (q := 37) (t0 := 40) dX11_see_34 (by decide) rfl hc ?_
        exact ev_weak _ (mLe_none (mLe_none (mLe_none (mLe_none mLe_nil)))) (e_X11_see_J37 w _ h)
      · rw [if_neg hc] at h
        refine ev_if_ne_t (q := 40) dX11_see_34 (by decide) hc ?_
        refine ev_aload_n (q := 41) dX11_see_40 rfl rfl ?_
        replace h := Option.bind_eq_some_iff.mp h; obtain ⟨r5, hr5, h⟩ := h
        refine ev_gI dX11_see_41 fl_X11_134 hr5 rfl ?_
        refine ev_bipush (q := 46) (v := (6 : Int32)) dX11_see_44 rfl (by decide) ?_
        by_cases hc : r5 = (6 : Int32)
        · rw [if_pos hc] at h
          refine ev_icmp_ne_f (q := 49) (t0 := 52) dX11_see_46 (by decide) rfl hc ?_
          refine ev_bipush (q := 51) (v := (-104 : Int32)) dX11_see_49 rfl (by decide) ?_
          cases h
          exact ev_iret dX11_see_51 rfl rfl
        · rw [if_neg hc] at h
          refine ev_icmp_ne_t (q := 52) dX11_see_46 (by decide) hc ?_
          refine ev_aload_n (q := 53) dX11_see_52 rfl rfl ?_
          replace h := Option.bind_eq_some_iff.mp h; obtain ⟨r6, hr6, h⟩ := h
          refine ev_gR dX11_see_53 fl_X11_46 hr6 rfl ?_
          refine ev_iconst (q := 57) (v := (3 : Int32)) dX11_see_56 rfl (by decide) ?_
          refine ev_aload_n (q := 58) dX11_see_57 rfl rfl ?_
          replace h := Option.bind_eq_some_iff.mp h; obtain ⟨r7, hr7, h⟩ := h
          refine ev_gI dX11_see_58 fl_X11_134 hr7 rfl ?_
          refine ev_imul (q := 62) dX11_see_61 rfl ?_
          refine ev_iload_n (q := 63) dX11_see_62 rfl rfl ?_
          replace h := Option.bind_eq_some_iff.mp h; obtain ⟨w8, hw8, h⟩ := h
          refine ev_aS dX11_see_63 hw8 rfl ?_
          refine ev_aload_n (q := 65) dX11_see_64 rfl rfl ?_
          replace h := Option.bind_eq_some_iff.mp h; obtain ⟨r9, hr9, h⟩ := h
          refine ev_gR dX11_see_65 fl_X11_46 hr9 rfl ?_
          refine ev_iconst (q := 69) (v := (3 : Int32)) dX11_see_68 rfl (by decide) ?_
          refine ev_aload_n (q := 70) dX11_see_69 rfl rfl ?_
          replace h := Option.bind_eq_some_iff.mp h; obtain ⟨r10, hr10, h⟩ := h
          refine ev_gI dX11_see_70 fl_X11_134 hr10 rfl ?_
          refine ev_imul (q := 74) dX11_see_73 rfl ?_
          refine ev_iconst (q := 75) (v := (1 : Int32)) dX11_see_74 rfl (by decide) ?_
          refine ev_iadd (q := 76) dX11_see_75 rfl ?_
          refine ev_iload_n (q := 77) dX11_see_76 rfl rfl ?_
          replace h := Option.bind_eq_some_iff.mp h; obtain ⟨w11, hw11, h⟩ := h
          refine ev_aS dX11_see_77 hw11 rfl ?_
          refine ev_aload_n (q := 79) dX11_see_78 rfl rfl ?_
          replace h := Option.bind_eq_some_iff.mp h; obtain ⟨r12, hr12, h⟩ := h
          refine ev_gR dX11_see_79 fl_X11_46 hr12 rfl ?_
          refine ev_iconst (q := 83) (v := (3 : Int32)) dX11_see_82 rfl (by decide) ?_
          refine ev_aload_n (q := 84) dX11_see_83 rfl rfl ?_
          replace h := Option.bind_eq_some_iff.mp h; obtain ⟨r13, hr13, h⟩ := h
          refine ev_gI dX11_see_84 fl_X11_134 hr13 rfl ?_
          refine ev_imul (q := 88) dX11_see_87 rfl ?_
          refine ev_iconst (q := 89) (v := (2 : Int32)) dX11_see_88 rfl (by decide) ?_
          refine ev_iadd (q := 90) dX11_see_89 rfl ?_
          refine ev_iload_n (q := 91) dX11_see_90 rfl rfl ?_
          replace h := Option.bind_eq_some_iff.mp h; obtain ⟨w14, hw14, h⟩ := h
          refine ev_aS dX11_see_91 hw14 rfl ?_
          refine ev_aload_n (q := 93) dX11_see_92 rfl rfl ?_
          refine ev_dup (q := 94) dX11_see_93 rfl rfl ?_
          replace h := Option.bind_eq_some_iff.mp h; obtain ⟨r15, hr15, h⟩ := h
          refine ev_gI dX11_see_94 fl_X11_134 hr15 rfl ?_
          refine ev_iconst (q := 98) (v := (1 : Int32)) dX11_see_97 rfl (by decide) ?_
          refine ev_iadd (q := 99) dX11_see_98 rfl ?_
          replace h := Option.bind_eq_some_iff.mp h; obtain ⟨w16, hw16, h⟩ := h
          refine ev_pI dX11_see_99 fp_X11_134 hw16 rfl ?_
          refine ev_aload_n (q := 103) dX11_see_102 rfl rfl ?_
          replace h := Option.bind_eq_some_iff.mp h; obtain ⟨r17, hr17, h⟩ := h
          refine ev_gI dX11_see_103 fl_X11_134 hr17 rfl ?_
          cases h
          exact ev_iret dX11_see_106 rfl rfl
def f_X11_train_J35 (w : mW) : Option (Int32 × mW) := some (((-102 : Int32), w))
set_option maxRecDepth 100000 in
set_option maxHeartbeats 4000000 in
theorem e_X11_train_J35 {X : mXs} (w : mW) (res : Int32 × mW) (h : f_X11_train_J35 w = some res) : mEv X M_X11_train 2 (some (vi res.1)) res.2 35 [none, none, none, none, none] [] w := by
  unfold f_X11_train_J35 at h
  refine ev_bipush (q := 37) (v := (-102 : Int32)) dX11_train_35 rfl (by decide) ?_
  cases h
  exact ev_iret dX11_train_37 rfl rfl
def f_X11_train (o : Nat) (v1 : Int32) (v2 : Int32) (v3 : Int32) (w : mW) : Option (Int32 × mW) := Option.bind (kO w (some o) 11) fun _ => Option.bind (f_X11_isTosser o v1 w) fun r1 => if r1 = 0 then (some (((-101 : Int32), w))) else (Option.bind (f_X11_in v2.toInt64 (0 : Int64) (4 : Int64) w) fun r3 => if r3 = 0 then (f_X11_train_J35 w) else (Option.bind (f_X11_in v3.toInt64 (0 : Int64) (4 : Int64) w) fun r4 => if r4 = 0 then (f_X11_train_J35 w) else (Option.bind (gR w (some o) 11 16) fun r5 => Option.bind (aL w r5 v1) fun r6 => Option.bind (gR w (some o) 11 15) fun r7 => Option.bind (aS w r7 v1 v2) fun w8 => Option.bind (gR w8 (some o) 11 16) fun r9 => Option.bind (aS w8 r9 v1 v3) fun w10 => some ((r6, w10)))))
set_option maxRecDepth 100000 in
set_option maxHeartbeats 4000000 in
theorem met_X11_train (o : Nat) (v1 : Int32) (v2 : Int32) (v3 : Int32) (w : mW) (res : Int32 × mW) (h : f_X11_train o v1 v2 v3 w = some res) : mMet M_X11_train 2 [vr ((some o)), vi v1, vi v2, vi v3] w (some (vi res.1)) res.2 := by
  refine ev_met (n := 1) (by decide) rfl fun X => ?_
  unfold f_X11_train at h
  show mEv X M_X11_train 2 _ _ 0 [some (vr ((some o))), some (vi v1), some (vi v2), some (vi v3), none] [] w
  refine ev_aload_n (q := 1) dX11_train_0 rfl rfl ?_
  refine ev_iload_n (q := 2) dX11_train_1 rfl rfl ?_
  replace h := Option.bind_eq_some_iff.mp h; obtain ⟨q2, hq2, h⟩ := h
  obtain ⟨hxq2, fsq2, hkq2⟩ := kO_spec hq2
  cases hxq2
  replace h := Option.bind_eq_some_iff.mp h; obtain ⟨r1, hr1, h⟩ := h
  refine ev_invV (M1 := M_X11_isTosser) (as := [vi v1]) (fs := fsq2) (ci := 11) dX11_train_2 rfl tw_999 cal_X11_isTosser tw_1001 tw_34 (by decide) rfl rfl (Nat.le_of_ble_eq_true rfl) hkq2 rfl (met_X11_isTosser o v1 w _ hr1) ?_
  by_cases hc : r1 = 0
  · rw [if_pos hc] at h
    refine ev_if_ne_f (q := 8) (t0 := 11) dX11_train_5 (by decide) rfl hc ?_
    refine ev_bipush (q := 10) (v := (-101 : Int32)) dX11_train_8 rfl (by decide) ?_
    cases h
    exact ev_iret dX11_train_10 rfl rfl
  · rw [if_neg hc] at h
    refine ev_if_ne_t (q := 11) dX11_train_5 (by decide) hc ?_
    refine ev_iload_n (q := 12) dX11_train_11 rfl rfl ?_
    refine ev_i2l (q := 13) dX11_train_12 rfl ?_
    refine ev_lconst (q := 14) (v := (0 : Int64)) dX11_train_13 rfl (by decide) ?_
    refine ev_ldc2 (q := 17) (v := (4 : Int64)) dX11_train_14 rfl tw_1094 ?_
    replace h := Option.bind_eq_some_iff.mp h; obtain ⟨r3, hr3, h⟩ := h
    refine ev_invS (M1 := M_X11_in) (as := [vl v2.toInt64, vl ((0 : Int64)), vl ((4 : Int64))]) dX11_train_17 rfl tw_954 cal_X11_in tw_955 (by decide) rfl rfl (Nat.le_of_ble_eq_true rfl) (met_X11_in v2.toInt64 (0 : Int64) (4 : Int64) w _ hr3) ?_
    by_cases hc : r3 = 0
    · rw [if_pos hc] at h
      refine ev_if_eq_t (q := 35) dX11_train_20 (by decide) hc ?_
      exact ev_weak _ (mLe_none (mLe_none (mLe_none (mLe_none (mLe_none mLe_nil))))) (e_X11_train_J35 w _ h)
    · rw [if_neg hc] at h
      refine ev_if_eq_f (q := 23) (t0 := 35) dX11_train_20 (by decide) rfl hc ?_
      refine ev_iload_n (q := 24) dX11_train_23 rfl rfl ?_
      refine ev_i2l (q := 25) dX11_train_24 rfl ?_
      refine ev_lconst (q := 26) (v := (0 : Int64)) dX11_train_25 rfl (by decide) ?_
      refine ev_ldc2 (q := 29) (v := (4 : Int64)) dX11_train_26 rfl tw_1094 ?_
      replace h := Option.bind_eq_some_iff.mp h; obtain ⟨r4, hr4, h⟩ := h
      refine ev_invS (M1 := M_X11_in) (as := [vl v3.toInt64, vl ((0 : Int64)), vl ((4 : Int64))]) dX11_train_29 rfl tw_954 cal_X11_in tw_955 (by decide) rfl rfl (Nat.le_of_ble_eq_true rfl) (met_X11_in v3.toInt64 (0 : Int64) (4 : Int64) w _ hr4) ?_
      by_cases hc : r4 = 0
      · rw [if_pos hc] at h
        refine ev_if_ne_f (q := 35) (t0 := 38) dX11_train_32 (by decide) rfl hc ?_
        exact ev_weak _ (mLe_none (mLe_none (mLe_none (mLe_none (mLe_none mLe_nil))))) (e_X11_train_J35 w _ h)
      · rw [if_neg hc] at h
        refine ev_if_ne_t (q := 38) dX11_train_32 (by decide) hc ?_
        refine ev_aload_n (q := 39) dX11_train_38 rfl rfl ?_
        replace h := Option.bind_eq_some_iff.mp h; obtain ⟨r5, hr5, h⟩ := h
        refine ev_gR dX11_train_39 fl_X11_31 hr5 rfl ?_
        refine ev_iload_n (q := 43) dX11_train_42 rfl rfl ?_
        replace h := Option.bind_eq_some_iff.mp h; obtain ⟨r6, hr6, h⟩ := h
        refine ev_aL dX11_train_43 hr6 rfl ?_
        refine ev_istore (q := 46) dX11_train_44 rfl (by decide) ?_
        refine ev_aload_n (q := 47) dX11_train_46 rfl rfl ?_
        replace h := Option.bind_eq_some_iff.mp h; obtain ⟨r7, hr7, h⟩ := h
        refine ev_gR dX11_train_47 fl_X11_28 hr7 rfl ?_
        refine ev_iload_n (q := 51) dX11_train_50 rfl rfl ?_
        refine ev_iload_n (q := 52) dX11_train_51 rfl rfl ?_
        replace h := Option.bind_eq_some_iff.mp h; obtain ⟨w8, hw8, h⟩ := h
        refine ev_aS dX11_train_52 hw8 rfl ?_
        refine ev_aload_n (q := 54) dX11_train_53 rfl rfl ?_
        replace h := Option.bind_eq_some_iff.mp h; obtain ⟨r9, hr9, h⟩ := h
        refine ev_gR dX11_train_54 fl_X11_31 hr9 rfl ?_
        refine ev_iload_n (q := 58) dX11_train_57 rfl rfl ?_
        refine ev_iload_n (q := 59) dX11_train_58 rfl rfl ?_
        replace h := Option.bind_eq_some_iff.mp h; obtain ⟨w10, hw10, h⟩ := h
        refine ev_aS dX11_train_59 hw10 rfl ?_
        refine ev_iload (q := 62) dX11_train_60 rfl rfl ?_
        cases h
        exact ev_iret dX11_train_62 rfl rfl
def f_X11_turnsOf_J93 (kc : Int32 → Int32 → Option (Int32)) (o : Nat) (v1 : Int32) (v3 : Int32) (s0 : Int32) (s1 : Int32) (w : mW) : Option (Int32) := kc (s0 ||| s1) (v3 + (1 : Int32))
set_option maxRecDepth 100000 in
set_option maxHeartbeats 4000000 in
theorem e_X11_turnsOf_J93 {X : mXs} {r : Option mV} {w' : mW} (P : (Int32) → Prop) (o : Nat) (v1 : Int32) (v3 : Int32) (s0 : Int32) (s1 : Int32) (w : mW) (kc : Int32 → Int32 → Option (Int32)) (hk : ∀ (u2 : Int32) (u3 : Int32) (e : Int32), kc u2 u3 = some e → P e → mEv X M_X11_turnsOf 2 r w' 4 [some (vr ((some o))), some (vi v1), some (vi u2), some (vi u3), none, none] [] w) (e : Int32) (h : f_X11_turnsOf_J93 kc o v1 v3 s0 s1 w = some e) (hP : P e) : mEv X M_X11_turnsOf 2 r w' 93 [some (vr ((some o))), some (vi v1), none, some (vi v3), none, none] [vi s1, vi s0] w := by
  unfold f_X11_turnsOf_J93 at h
  refine ev_ior (q := 94) dX11_turnsOf_93 rfl ?_
  refine ev_istore_n (q := 95) dX11_turnsOf_94 rfl (by decide) ?_
  refine ev_iinc (q := 98) (v := v3 + (1 : Int32)) dX11_turnsOf_95 rfl (by decide) rfl (by rfl) ?_
  refine ev_goto (q := 4) dX11_turnsOf_98 (by decide) ?_
  exact ev_weak _ (mLe_some (mLe_some (mLe_some (mLe_some (mLe_none (mLe_none mLe_nil)))))) (hk (s0 ||| s1) (v3 + (1 : Int32)) _ h hP)
def f_X11_turnsOf_J72 (kc : Int32 → Int32 → Option (Int32)) (o : Nat) (v1 : Int32) (v2 : Int32) (v3 : Int32) (v5 : Int32) (s0 : Int32) (w : mW) : Option (Int32) := kc s0 (v5 + (3 : Int32))
set_option maxRecDepth 100000 in
set_option maxHeartbeats 4000000 in
theorem e_X11_turnsOf_J72 {X : mXs} {r : Option mV} {w' : mW} (P : (Int32) → Prop) (o : Nat) (v1 : Int32) (v2 : Int32) (v3 : Int32) (v5 : Int32) (s0 : Int32) (w : mW) (kc : Int32 → Int32 → Option (Int32)) (hk : ∀ (u4 : Int32) (u5 : Int32) (e : Int32), kc u4 u5 = some e → P e → mEv X M_X11_turnsOf 2 r w' 15 [some (vr ((some o))), some (vi v1), some (vi v2), some (vi v3), some (vi u4), some (vi u5)] [] w) (e : Int32) (h : f_X11_turnsOf_J72 kc o v1 v2 v3 v5 s0 w = some e) (hP : P e) : mEv X M_X11_turnsOf 2 r w' 72 [some (vr ((some o))), some (vi v1), some (vi v2), some (vi v3), none, some (vi v5)] [vi s0] w := by
  unfold f_X11_turnsOf_J72 at h
  refine ev_istore (q := 74) dX11_turnsOf_72 rfl (by decide) ?_
  refine ev_iinc (q := 77) (v := v5 + (3 : Int32)) dX11_turnsOf_74 rfl (by decide) rfl (by rfl) ?_
  refine ev_goto (q := 15) dX11_turnsOf_77 (by decide) ?_
  exact ev_weak _ (mLe_some (mLe_some (mLe_some (mLe_some (mLe_some (mLe_some mLe_nil)))))) (hk s0 (v5 + (3 : Int32)) _ h hP)
def f_X11_turnsOf_J71 (kc : Int32 → Int32 → Option (Int32)) (o : Nat) (v1 : Int32) (v2 : Int32) (v3 : Int32) (v5 : Int32) (w : mW) : Option (Int32) := f_X11_turnsOf_J72 kc o v1 v2 v3 v5 (0 : Int32) w
set_option maxRecDepth 100000 in
set_option maxHeartbeats 4000000 in
theorem e_X11_turnsOf_J71 {X : mXs} {r : Option mV} {w' : mW} (P : (Int32) → Prop) (o : Nat) (v1 : Int32) (v2 : Int32) (v3 : Int32) (v5 : Int32) (w : mW) (kc : Int32 → Int32 → Option (Int32)) (hk : ∀ (u4 : Int32) (u5 : Int32) (e : Int32), kc u4 u5 = some e → P e → mEv X M_X11_turnsOf 2 r w' 15 [some (vr ((some o))), some (vi v1), some (vi v2), some (vi v3), some (vi u4), some (vi u5)] [] w) (e : Int32) (h : f_X11_turnsOf_J71 kc o v1 v2 v3 v5 w = some e) (hP : P e) : mEv X M_X11_turnsOf 2 r w' 71 [some (vr ((some o))), some (vi v1), some (vi v2), some (vi v3), none, some (vi v5)] [] w := by
  unfold f_X11_turnsOf_J71 at h
  refine ev_iconst (q := 72) (v := (0 : Int32)) dX11_turnsOf_71 rfl (by decide) ?_
  exact ev_weak _ (mLe_some (mLe_some (mLe_some (mLe_some (mLe_none (mLe_some mLe_nil)))))) (e_X11_turnsOf_J72 P o v1 v2 v3 v5 (0 : Int32) w _ hk  _ h hP)
def f_X11_turnsOf_J67 (kc : Int32 → Int32 → Option (Int32)) (o : Nat) (v1 : Int32) (v2 : Int32) (v3 : Int32) (v5 : Int32) (w : mW) : Option (Int32) := f_X11_turnsOf_J72 kc o v1 v2 v3 v5 (1 : Int32) w
set_option maxRecDepth 100000 in
set_option maxHeartbeats 4000000 in
theorem e_X11_turnsOf_J67 {X : mXs} {r : Option mV} {w' : mW} (P : (Int32) → Prop) (o : Nat) (v1 : Int32) (v2 : Int32) (v3 : Int32) (v5 : Int32) (w : mW) (kc : Int32 → Int32 → Option (Int32)) (hk : ∀ (u4 : Int32) (u5 : Int32) (e : Int32), kc u4 u5 = some e → P e → mEv X M_X11_turnsOf 2 r w' 15 [some (vr ((some o))), some (vi v1), some (vi v2), some (vi v3), some (vi u4), some (vi u5)] [] w) (e : Int32) (h : f_X11_turnsOf_J67 kc o v1 v2 v3 v5 w = some e) (hP : P e) : mEv X M_X11_turnsOf 2 r w' 67 [some (vr ((some o))), some (vi v1), some (vi v2), some (vi v3), none, some (vi v5)] [] w := by
  unfold f_X11_turnsOf_J67 at h
  refine ev_iconst (q := 68) (v := (1 : Int32)) dX11_turnsOf_67 rfl (by decide) ?_
  refine ev_goto (q := 72) dX11_turnsOf_68 (by decide) ?_
  exact ev_weak _ (mLe_some (mLe_some (mLe_some (mLe_some (mLe_none (mLe_some mLe_nil)))))) (e_X11_turnsOf_J72 P o v1 v2 v3 v5 (1 : Int32) w _ hk  _ h hP)
def f_X11_turnsOf_L15 (o : Nat) (v1 : Int32) (v2 : Int32) (v3 : Int32) (w : mW) : Nat → Int32 → Int32 → Option (Int32)
  | 0, _, _ => none
  | n + 1, v4, v5 => Option.bind (gI w (some o) 11 22) fun r1 => if (3 : Int32) * r1 ≤ v5 then (some (v4)) else (if v4 = 0 then (f_X11_turnsOf_J71 (f_X11_turnsOf_L15 o v1 v2 v3 w n) o v1 v2 v3 v5 w) else (Option.bind (gR w (some o) 11 23) fun r2 => Option.bind (aL w r2 v5) fun r3 => if r3 = v1 then (Option.bind (gR w (some o) 11 23) fun r4 => Option.bind (aL w r4 (v5 + (1 : Int32))) fun r5 => Option.bind (f_X11_columnBy r5 v3 w) fun r6 => Option.bind (gR w (some o) 11 23) fun r7 => Option.bind (aL w r7 (v5 + (2 : Int32))) fun r8 => if r6 = r8 then (f_X11_turnsOf_J67 (f_X11_turnsOf_L15 o v1 v2 v3 w n) o v1 v2 v3 v5 w) else (f_X11_turnsOf_J71 (f_X11_turnsOf_L15 o v1 v2 v3 w n) o v1 v2 v3 v5 w)) else (f_X11_turnsOf_J67 (f_X11_turnsOf_L15 o v1 v2 v3 w n) o v1 v2 v3 v5 w)))
set_option maxRecDepth 100000 in
set_option maxHeartbeats 4000000 in
theorem e_X11_turnsOf_L15 {X : mXs} {r : Option mV} {w' : mW} (P : (Int32) → Prop) (o : Nat) (v1 : Int32) (v2 : Int32) (v3 : Int32) (w : mW) (hexit : ∀ y, P y → mEv X M_X11_turnsOf 2 r w' 80 [some (vr ((some o))), some (vi v1), some (vi v2), some (vi v3), some (vi y), none] [] w) : ∀ (n : Nat) (v4 : Int32) (v5 : Int32) (e : Int32), f_X11_turnsOf_L15 o v1 v2 v3 w n v4 v5 = some e → P e → mEv X M_X11_turnsOf 2 r w' 15 [some (vr ((some o))), some (vi v1), some (vi v2), some (vi v3), some (vi v4), some (vi v5)] [] w := by
  intro n
  induction n with
  | zero =>
    intro v4 v5 e h hP
    rw [f_X11_turnsOf_L15] at h
    cases h
  | succ n hk =>
    intro v4 v5 e h hP
    rw [f_X11_turnsOf_L15] at h
    refine ev_iload (q := 17) dX11_turnsOf_15 rfl rfl ?_
    refine ev_iconst (q := 18) (v := (3 : Int32)) dX11_turnsOf_17 rfl (by decide) ?_
    refine ev_aload_n (q := 19) dX11_turnsOf_18 rfl rfl ?_
    replace h := Option.bind_eq_some_iff.mp h; obtain ⟨r1, hr1, h⟩ := h
    refine ev_gI dX11_turnsOf_19 fl_X11_134 hr1 rfl ?_
    refine ev_imul (q := 23) dX11_turnsOf_22 rfl ?_
    by_cases hc : (3 : Int32) * r1 ≤ v5
    · rw [if_pos hc] at h
      refine ev_icmp_ge_t (q := 80) dX11_turnsOf_23 (by decide) hc ?_
      cases h
      exact ev_weak _ (mLe_some (mLe_some (mLe_some (mLe_some (mLe_some (mLe_none mLe_nil)))))) (hexit _ hP)
    · rw [if_neg hc] at h
      refine ev_icmp_ge_f (q := 26) (t0 := 80) dX11_turnsOf_23 (by decide) rfl hc ?_
      refine ev_iload (q := 28) dX11_turnsOf_26 rfl rfl ?_
      by_cases hc : v4 = 0
      · rw [if_pos hc] at h
        refine ev_if_eq_t (q := 71) dX11_turnsOf_28 (by decide) hc ?_
        exact ev_weak _ (mLe_some (mLe_some (mLe_some (mLe_some (mLe_none (mLe_some mLe_nil)))))) (e_X11_turnsOf_J71 P o v1 v2 v3 v5 w _ hk  _ h hP)
      · rw [if_neg hc] at h
        refine ev_if_eq_f (q := 31) (t0 := 71) dX11_turnsOf_28 (by decide) rfl hc ?_
        refine ev_aload_n (q := 32) dX11_turnsOf_31 rfl rfl ?_
        replace h := Option.bind_eq_some_iff.mp h; obtain ⟨r2, hr2, h⟩ := h
        refine ev_gR dX11_turnsOf_32 fl_X11_46 hr2 rfl ?_
        refine ev_iload (q := 37) dX11_turnsOf_35 rfl rfl ?_
        replace h := Option.bind_eq_some_iff.mp h; obtain ⟨r3, hr3, h⟩ := h
        refine ev_aL dX11_turnsOf_37 hr3 rfl ?_
        refine ev_iload_n (q := 39) dX11_turnsOf_38 rfl rfl ?_
        by_cases hc : r3 = v1
        · rw [if_pos hc] at h
          refine ev_icmp_ne_f (q := 42) (t0 := 67) dX11_turnsOf_39 (by decide) rfl hc ?_
          refine ev_aload_n (q := 43) dX11_turnsOf_42 rfl rfl ?_
          replace h := Option.bind_eq_some_iff.mp h; obtain ⟨r4, hr4, h⟩ := h
          refine ev_gR dX11_turnsOf_43 fl_X11_46 hr4 rfl ?_
          refine ev_iload (q := 48) dX11_turnsOf_46 rfl rfl ?_
          refine ev_iconst (q := 49) (v := (1 : Int32)) dX11_turnsOf_48 rfl (by decide) ?_
          refine ev_iadd (q := 50) dX11_turnsOf_49 rfl ?_
          replace h := Option.bind_eq_some_iff.mp h; obtain ⟨r5, hr5, h⟩ := h
          refine ev_aL dX11_turnsOf_50 hr5 rfl ?_
          refine ev_iload_n (q := 52) dX11_turnsOf_51 rfl rfl ?_
          replace h := Option.bind_eq_some_iff.mp h; obtain ⟨r6, hr6, h⟩ := h
          refine ev_invS (M1 := M_X11_columnBy) (as := [vi r5, vi v3]) dX11_turnsOf_52 rfl tw_1083 cal_X11_columnBy tw_1084 (by decide) rfl rfl (Nat.le_of_ble_eq_true rfl) (met_X11_columnBy r5 v3 w _ hr6) ?_
          refine ev_aload_n (q := 56) dX11_turnsOf_55 rfl rfl ?_
          replace h := Option.bind_eq_some_iff.mp h; obtain ⟨r7, hr7, h⟩ := h
          refine ev_gR dX11_turnsOf_56 fl_X11_46 hr7 rfl ?_
          refine ev_iload (q := 61) dX11_turnsOf_59 rfl rfl ?_
          refine ev_iconst (q := 62) (v := (2 : Int32)) dX11_turnsOf_61 rfl (by decide) ?_
          refine ev_iadd (q := 63) dX11_turnsOf_62 rfl ?_
          replace h := Option.bind_eq_some_iff.mp h; obtain ⟨r8, hr8, h⟩ := h
          refine ev_aL dX11_turnsOf_63 hr8 rfl ?_
          by_cases hc : r6 = r8
          · rw [if_pos hc] at h
            refine ev_icmp_ne_f (q := 67) (t0 := 71) dX11_turnsOf_64 (by decide) rfl hc ?_
            exact ev_weak _ (mLe_some (mLe_some (mLe_some (mLe_some (mLe_none (mLe_some mLe_nil)))))) (e_X11_turnsOf_J67 P o v1 v2 v3 v5 w _ hk  _ h hP)
          · rw [if_neg hc] at h
            refine ev_icmp_ne_t (q := 71) dX11_turnsOf_64 (by decide) hc ?_
            exact ev_weak _ (mLe_some (mLe_some (mLe_some (mLe_some (mLe_none (mLe_some mLe_nil)))))) (e_X11_turnsOf_J71 P o v1 v2 v3 v5 w _ hk  _ h hP)
        · rw [if_neg hc] at h
          refine ev_icmp_ne_t (q := 67) dX11_turnsOf_39 (by decide) hc ?_
          exact ev_weak _ (mLe_some (mLe_some (mLe_some (mLe_some (mLe_none (mLe_some mLe_nil)))))) (e_X11_turnsOf_J67 P o v1 v2 v3 v5 w _ hk  _ h hP)
def f_X11_turnsOf_L4 (o : Nat) (v1 : Int32) (w : mW) : Nat → Int32 → Int32 → Option (Int32)
  | 0, _, _ => none
  | n + 1, v2, v3 => if (5 : Int32) ≤ v3 then (some (v2)) else (Option.bind (f_X11_turnsOf_L15 o v1 v2 v3 w mFuel (1 : Int32) (0 : Int32)) fun e9 => if e9 = 0 then (f_X11_turnsOf_J93 (f_X11_turnsOf_L4 o v1 w n) o v1 v3 v2 (0 : Int32) w) else (f_X11_turnsOf_J93 (f_X11_turnsOf_L4 o v1 w n) o v1 v3 v2 ((1 : Int32) <<< (v3 &&& 31)) w))
set_option maxRecDepth 100000 in
set_option maxHeartbeats 4000000 in
theorem e_X11_turnsOf_L4 {X : mXs} {r : Option mV} {w' : mW} (P : (Int32) → Prop) (o : Nat) (v1 : Int32) (w : mW) (hexit : ∀ y, P y → mEv X M_X11_turnsOf 2 r w' 101 [none, none, some (vi y), none, none, none] [] w) : ∀ (n : Nat) (v2 : Int32) (v3 : Int32) (e : Int32), f_X11_turnsOf_L4 o v1 w n v2 v3 = some e → P e → mEv X M_X11_turnsOf 2 r w' 4 [some (vr ((some o))), some (vi v1), some (vi v2), some (vi v3), none, none] [] w := by
  intro n
  induction n with
  | zero =>
    intro v2 v3 e h hP
    rw [f_X11_turnsOf_L4] at h
    cases h
  | succ n hk =>
    intro v2 v3 e h hP
    rw [f_X11_turnsOf_L4] at h
    refine ev_iload_n (q := 5) dX11_turnsOf_4 rfl rfl ?_
    refine ev_iconst (q := 6) (v := (5 : Int32)) dX11_turnsOf_5 rfl (by decide) ?_
    by_cases hc : (5 : Int32) ≤ v3
    · rw [if_pos hc] at h
      refine ev_icmp_ge_t (q := 101) dX11_turnsOf_6 (by decide) hc ?_
      cases h
      exact ev_weak _ (mLe_none (mLe_none (mLe_some (mLe_none (mLe_none (mLe_none mLe_nil)))))) (hexit _ hP)
    · rw [if_neg hc] at h
      refine ev_icmp_ge_f (q := 9) (t0 := 101) dX11_turnsOf_6 (by decide) rfl hc ?_
      refine ev_iconst (q := 10) (v := (1 : Int32)) dX11_turnsOf_9 rfl (by decide) ?_
      refine ev_istore (q := 12) dX11_turnsOf_10 rfl (by decide) ?_
      refine ev_iconst (q := 13) (v := (0 : Int32)) dX11_turnsOf_12 rfl (by decide) ?_
      refine ev_istore (q := 15) dX11_turnsOf_13 rfl (by decide) ?_
      replace h := Option.bind_eq_some_iff.mp h; obtain ⟨e9, he9, h⟩ := h
      refine ev_weak _ (mLe_some (mLe_some (mLe_some (mLe_some (mLe_some (mLe_some mLe_nil)))))) (e_X11_turnsOf_L15 (fun z => e9 = z) o v1 v2 v3 w (fun e9q hq => ?_) mFuel (1 : Int32) (0 : Int32) _ he9 rfl)
      subst hq
      refine ev_iload_n (q := 81) dX11_turnsOf_80 rfl rfl ?_
      refine ev_iload (q := 83) dX11_turnsOf_81 rfl rfl ?_
      by_cases hc : e9 = 0
      · rw [if_pos hc] at h
        refine ev_if_eq_t (q := 92) dX11_turnsOf_83 (by decide) hc ?_
        refine ev_iconst (q := 93) (v := (0 : Int32)) dX11_turnsOf_92 rfl (by decide) ?_
        exact ev_weak _ (mLe_some (mLe_some (mLe_none (mLe_some (mLe_none (mLe_none mLe_nil)))))) (e_X11_turnsOf_J93 P o v1 v3 v2 (0 : Int32) w _ hk  _ h hP)
      · rw [if_neg hc] at h
        refine ev_if_eq_f (q := 86) (t0 := 92) dX11_turnsOf_83 (by decide) rfl hc ?_
        refine ev_iconst (q := 87) (v := (1 : Int32)) dX11_turnsOf_86 rfl (by decide) ?_
        refine ev_iload_n (q := 88) dX11_turnsOf_87 rfl rfl ?_
        refine ev_ishl (q := 89) dX11_turnsOf_88 rfl ?_
        refine ev_goto (q := 93) dX11_turnsOf_89 (by decide) ?_
        exact ev_weak _ (mLe_some (mLe_some (mLe_none (mLe_some (mLe_none (mLe_none mLe_nil)))))) (e_X11_turnsOf_J93 P o v1 v3 v2 ((1 : Int32) <<< (v3 &&& 31)) w _ hk  _ h hP)
def f_X11_turnsOf (o : Nat) (v1 : Int32) (w : mW) : Option (Int32) := Option.bind (f_X11_turnsOf_L4 o v1 w mFuel (0 : Int32) (0 : Int32)) fun e10 => some (e10)
set_option maxRecDepth 100000 in
set_option maxHeartbeats 4000000 in
theorem met_X11_turnsOf (o : Nat) (v1 : Int32) (w : mW) (res : Int32) (h : f_X11_turnsOf o v1 w = some res) : mMet M_X11_turnsOf 2 [vr ((some o)), vi v1] w (some (vi res)) w := by
  refine ev_met (n := 4) (by decide) rfl fun X => ?_
  unfold f_X11_turnsOf at h
  show mEv X M_X11_turnsOf 2 _ _ 0 [some (vr ((some o))), some (vi v1), none, none, none, none] [] w
  refine ev_iconst (q := 1) (v := (0 : Int32)) dX11_turnsOf_0 rfl (by decide) ?_
  refine ev_istore_n (q := 2) dX11_turnsOf_1 rfl (by decide) ?_
  refine ev_iconst (q := 3) (v := (0 : Int32)) dX11_turnsOf_2 rfl (by decide) ?_
  refine ev_istore_n (q := 4) dX11_turnsOf_3 rfl (by decide) ?_
  replace h := Option.bind_eq_some_iff.mp h; obtain ⟨e10, he10, h⟩ := h
  refine ev_weak _ (mLe_some (mLe_some (mLe_some (mLe_some (mLe_none (mLe_none mLe_nil)))))) (e_X11_turnsOf_L4 (fun z => e10 = z) o v1 w (fun e10q hq => ?_) mFuel (0 : Int32) (0 : Int32) _ he10 rfl)
  subst hq
  refine ev_iload_n (q := 102) dX11_turnsOf_101 rfl rfl ?_
  cases h
  exact ev_iret dX11_turnsOf_102 rfl rfl
def f_J0_indexOf_7cf53_J36 (s0 : Int32) (w : mW) : Option (Int32) := some (s0)
set_option maxRecDepth 100000 in
set_option maxHeartbeats 4000000 in
theorem e_J0_indexOf_7cf53_J36 {X : mXs} (s0 : Int32) (w : mW) (res : Int32) (h : f_J0_indexOf_7cf53_J36 s0 w = some res) : mEv X M_J0_indexOf_7cf53 2 (some (vi res)) w 36 [none, none, none] [vi s0] w := by
  unfold f_J0_indexOf_7cf53_J36 at h
  cases h
  exact ev_iret dJ0_indexOf_7cf53_36 rfl rfl
def f_J0_indexOf_7cf53 (v1 : Int32) (v2 : Int32) (w : mW) : Option (Int32) := Option.bind (f_J0_isLatin1_aae02  w) fun r1 => if r1 = 0 then (Option.bind (f_J0_length_8abf5  w) fun r2 => none) else (Option.bind (f_J0_length_8abf5  w) fun r3 => Option.bind (f_J1_indexOf_4cfef v1 v2 r3 w) fun r4 => f_J0_indexOf_7cf53_J36 r4 w)
set_option maxRecDepth 100000 in
set_option maxHeartbeats 4000000 in
theorem met_J0_indexOf_7cf53 (v1 : Int32) (v2 : Int32) (w : mW) (res : Int32) (h : f_J0_indexOf_7cf53 v1 v2 w = some res) : mMet M_J0_indexOf_7cf53 2 [vx 1, vi v1, vi v2] w (some (vi res)) w := by
  refine ev_met (n := 0) (by decide) rfl fun X => ?_
  unfold f_J0_indexOf_7cf53 at h
  show mEv X M_J0_indexOf_7cf53 2 _ _ 0 [some (vx 1), some (vi v1), some (vi v2)] [] w
  refine ev_aload_n (q := 1) dJ0_indexOf_7cf53_0 rfl rfl ?_
  replace h := Option.bind_eq_some_iff.mp h; obtain ⟨r1, hr1, h⟩ := h
  refine ev_invStr (M1 := M_J0_isLatin1_aae02) (as := []) dJ0_indexOf_7cf53_1 rfl tw_343 rfl cal_J0_isLatin1_aae02 tw_344 tw_345 (by decide) rfl rfl (Nat.le_of_ble_eq_true rfl) (met_J0_isLatin1_aae02  w _ hr1) ?_
  by_cases hc : r1 = 0
  · rw [if_pos hc] at h
    refine ev_if_eq_t (q := 23) dJ0_indexOf_7cf53_4 (by decide) hc ?_
    refine ev_aload_n (q := 24) dJ0_indexOf_7cf53_23 rfl rfl ?_
    refine ev_value (q := 27) dJ0_indexOf_7cf53_24 rfl tw_1237 ?_
    refine ev_iload_n (q := 28) dJ0_indexOf_7cf53_27 rfl rfl ?_
    refine ev_iload_n (q := 29) dJ0_indexOf_7cf53_28 rfl rfl ?_
    refine ev_aload_n (q := 30) dJ0_indexOf_7cf53_29 rfl rfl ?_
    replace h := Option.bind_eq_some_iff.mp h; obtain ⟨r2, hr2, h⟩ := h
    refine ev_invStr (M1 := M_J0_length_8abf5) (as := []) dJ0_indexOf_7cf53_30 rfl tw_349 rfl cal_J0_length_8abf5 tw_350 tw_351 (by decide) rfl rfl (Nat.le_of_ble_eq_true rfl) (met_J0_length_8abf5  w _ hr2) ?_
    cases h
  · rw [if_neg hc] at h
    refine ev_if_eq_f (q := 7) (t0 := 23) dJ0_indexOf_7cf53_4 (by decide) rfl hc ?_
    refine ev_aload_n (q := 8) dJ0_indexOf_7cf53_7 rfl rfl ?_
    refine ev_value (q := 11) dJ0_indexOf_7cf53_8 rfl tw_1237 ?_
    refine ev_iload_n (q := 12) dJ0_indexOf_7cf53_11 rfl rfl ?_
    refine ev_iload_n (q := 13) dJ0_indexOf_7cf53_12 rfl rfl ?_
    refine ev_aload_n (q := 14) dJ0_indexOf_7cf53_13 rfl rfl ?_
    replace h := Option.bind_eq_some_iff.mp h; obtain ⟨r3, hr3, h⟩ := h
    refine ev_invStr (M1 := M_J0_length_8abf5) (as := []) dJ0_indexOf_7cf53_14 rfl tw_349 rfl cal_J0_length_8abf5 tw_350 tw_351 (by decide) rfl rfl (Nat.le_of_ble_eq_true rfl) (met_J0_length_8abf5  w _ hr3) ?_
    replace h := Option.bind_eq_some_iff.mp h; obtain ⟨r4, hr4, h⟩ := h
    refine ev_invS (M1 := M_J1_indexOf_4cfef) (as := [vx 2, vi v1, vi v2, vi r3]) dJ0_indexOf_7cf53_17 rfl tw_357 cal_J1_indexOf_4cfef tw_358 (by decide) rfl rfl (Nat.le_of_ble_eq_true rfl) (met_J1_indexOf_4cfef v1 v2 r3 w _ hr4) ?_
    refine ev_goto (q := 36) dJ0_indexOf_7cf53_20 (by decide) ?_
    exact ev_weak _ (mLe_none (mLe_none (mLe_none mLe_nil))) (e_J0_indexOf_7cf53_J36 r4 w _ h)
def f_X10_init (o : Nat) (w : mW) : Option (mW) := Option.bind (some (w ++ [.inl (3, new_X3)])) fun w1 => Option.bind (f_X3_init w.length  w1) fun w2 => Option.bind (pR w2 (some o) 10 0 (some w.length)) fun w3 => Option.bind (some (w3 ++ [.inl (5, new_X5)])) fun w4 => Option.bind (f_X5_init w3.length  w4) fun w5 => Option.bind (pR w5 (some o) 10 1 (some w3.length)) fun w6 => Option.bind (some (w6 ++ [.inr (.inr (4, fun _ => none))])) fun w7 => Option.bind (pR w7 (some o) 10 2 (some w6.length)) fun w8 => Option.bind (some (w8 ++ [.inl (2, new_X2)])) fun w9 => Option.bind (f_X2_init w8.length  w9) fun w10 => Option.bind (pR w10 (some o) 10 3 (some w8.length)) fun w11 => Option.bind (some (w11 ++ [.inl (2, new_X2)])) fun w12 => Option.bind (f_X2_init w11.length  w12) fun w13 => Option.bind (pR w13 (some o) 10 4 (some w11.length)) fun w14 => Option.bind (some (w14 ++ [.inl (4, new_X4)])) fun w15 => Option.bind (f_X4_init w14.length  w15) fun w16 => Option.bind (pR w16 (some o) 10 5 (some w14.length)) fun w17 => Option.bind (some (w17 ++ [.inr (.inl (36, fun _ => 0))])) fun w18 => Option.bind (pR w18 (some o) 10 6 (some w17.length)) fun w19 => some (w19)
set_option maxRecDepth 100000 in
set_option maxHeartbeats 4000000 in
theorem met_X10_init (o : Nat) (w : mW) (res : mW) (h : f_X10_init o w = some res) : mMet M_X10_init 3 [vr ((some o))] w none res := by
  refine ev_met (n := 0) (by decide) rfl fun X => ?_
  unfold f_X10_init at h
  show mEv X M_X10_init 3 _ _ 0 [some (vr ((some o)))] [] w
  refine ev_aload_n (q := 1) dX10_init_0 rfl rfl ?_
  refine ev_obj (q := 4) dX10_init_1 rfl tw_86 tw_obji tw_objc (by decide) (Nat.le_of_ble_eq_true rfl) ?_
  refine ev_aload_n (q := 5) dX10_init_4 rfl rfl ?_
  replace h := Option.bind_eq_some_iff.mp h; obtain ⟨w1, hw1, h⟩ := h
  cases hw1
  refine ev_new (ci := 3) (fs := new_X3) tyX3 dX10_init_5 rfl rfl inm_X3 tyX3_ok tw_89 tw_90 tw_63 rfl new_X3_ok ?_
  refine ev_dup (q := 9) dX10_init_8 rfl rfl ?_
  replace h := Option.bind_eq_some_iff.mp h; obtain ⟨w2, hw2, h⟩ := h
  refine ev_invIN (M1 := M_X3_init) (as := []) dX10_init_9 rfl tw_91 cal_X3_init tw_92 rfl rfl (by decide) rfl rfl (Nat.le_of_ble_eq_true rfl) (met_X3_init w.length  (w ++ [.inl (3, new_X3)]) _ hw2) ?_
  replace h := Option.bind_eq_some_iff.mp h; obtain ⟨w3, hw3, h⟩ := h
  refine ev_pRF dX10_init_12 rfl mFit_o fp_X10_10 hw3 rfl ?_
  refine ev_aload_n (q := 16) dX10_init_15 rfl rfl ?_
  replace h := Option.bind_eq_some_iff.mp h; obtain ⟨w4, hw4, h⟩ := h
  cases hw4
  refine ev_new (ci := 5) (fs := new_X5) tyX5 dX10_init_16 rfl rfl inm_X5 tyX5_ok tw_107 tw_108 tw_64 rfl new_X5_ok ?_
  refine ev_dup (q := 20) dX10_init_19 rfl rfl ?_
  replace h := Option.bind_eq_some_iff.mp h; obtain ⟨w5, hw5, h⟩ := h
  refine ev_invIN (M1 := M_X5_init) (as := []) dX10_init_20 rfl tw_109 cal_X5_init tw_110 rfl rfl (by decide) rfl rfl (Nat.le_of_ble_eq_true rfl) (met_X5_init w3.length  (w3 ++ [.inl (5, new_X5)]) _ hw5) ?_
  replace h := Option.bind_eq_some_iff.mp h; obtain ⟨w6, hw6, h⟩ := h
  refine ev_pRF dX10_init_23 rfl mFit_o fp_X10_19 hw6 rfl ?_
  refine ev_aload_n (q := 27) dX10_init_26 rfl rfl ?_
  refine ev_iconst (q := 28) (v := (4 : Int32)) dX10_init_27 rfl (by decide) ?_
  replace h := Option.bind_eq_some_iff.mp h; obtain ⟨w7, hw7, h⟩ := h
  cases hw7
  refine ev_newq (N := 4) dX10_init_28 rfl tw_144 (by decide) (by decide) (by decide) ?_
  replace h := Option.bind_eq_some_iff.mp h; obtain ⟨w8, hw8, h⟩ := h
  refine ev_pRF dX10_init_31 rfl mFit_a fp_X10_25 hw8 rfl ?_
  refine ev_aload_n (q := 35) dX10_init_34 rfl rfl ?_
  replace h := Option.bind_eq_some_iff.mp h; obtain ⟨w9, hw9, h⟩ := h
  cases hw9
  refine ev_new (ci := 2) (fs := new_X2) tyX2 dX10_init_35 rfl rfl inm_X2 tyX2_ok tw_146 tw_147 tw_65 rfl new_X2_ok ?_
  refine ev_dup (q := 39) dX10_init_38 rfl rfl ?_
  replace h := Option.bind_eq_some_iff.mp h; obtain ⟨w10, hw10, h⟩ := h
  refine ev_invIN (M1 := M_X2_init) (as := []) dX10_init_39 rfl tw_148 cal_X2_init tw_149 rfl rfl (by decide) rfl rfl (Nat.le_of_ble_eq_true rfl) (met_X2_init w8.length  (w8 ++ [.inl (2, new_X2)]) _ hw10) ?_
  replace h := Option.bind_eq_some_iff.mp h; obtain ⟨w11, hw11, h⟩ := h
  refine ev_pRF dX10_init_42 rfl mFit_o fp_X10_32 hw11 rfl ?_
  refine ev_aload_n (q := 46) dX10_init_45 rfl rfl ?_
  replace h := Option.bind_eq_some_iff.mp h; obtain ⟨w12, hw12, h⟩ := h
  cases hw12
  refine ev_new (ci := 2) (fs := new_X2) tyX2 dX10_init_46 rfl rfl inm_X2 tyX2_ok tw_146 tw_147 tw_65 rfl new_X2_ok ?_
  refine ev_dup (q := 50) dX10_init_49 rfl rfl ?_
  replace h := Option.bind_eq_some_iff.mp h; obtain ⟨w13, hw13, h⟩ := h
  refine ev_invIN (M1 := M_X2_init) (as := []) dX10_init_50 rfl tw_148 cal_X2_init tw_149 rfl rfl (by decide) rfl rfl (Nat.le_of_ble_eq_true rfl) (met_X2_init w11.length  (w11 ++ [.inl (2, new_X2)]) _ hw13) ?_
  replace h := Option.bind_eq_some_iff.mp h; obtain ⟨w14, hw14, h⟩ := h
  refine ev_pRF dX10_init_53 rfl mFit_o fp_X10_36 hw14 rfl ?_
  refine ev_aload_n (q := 57) dX10_init_56 rfl rfl ?_
  replace h := Option.bind_eq_some_iff.mp h; obtain ⟨w15, hw15, h⟩ := h
  cases hw15
  refine ev_new (ci := 4) (fs := new_X4) tyX4 dX10_init_57 rfl rfl inm_X4 tyX4_ok tw_222 tw_223 tw_67 rfl new_X4_ok ?_
  refine ev_dup (q := 61) dX10_init_60 rfl rfl ?_
  replace h := Option.bind_eq_some_iff.mp h; obtain ⟨w16, hw16, h⟩ := h
  refine ev_invIN (M1 := M_X4_init) (as := []) dX10_init_61 rfl tw_224 cal_X4_init tw_225 rfl rfl (by decide) rfl rfl (Nat.le_of_ble_eq_true rfl) (met_X4_init w14.length  (w14 ++ [.inl (4, new_X4)]) _ hw16) ?_
  replace h := Option.bind_eq_some_iff.mp h; obtain ⟨w17, hw17, h⟩ := h
  refine ev_pRF dX10_init_64 rfl mFit_o fp_X10_42 hw17 rfl ?_
  refine ev_aload_n (q := 68) dX10_init_67 rfl rfl ?_
  refine ev_bipush (q := 70) (v := (36 : Int32)) dX10_init_68 rfl (by decide) ?_
  replace h := Option.bind_eq_some_iff.mp h; obtain ⟨w18, hw18, h⟩ := h
  cases hw18
  refine ev_newi (N := 36) dX10_init_70 rfl tw_106 (by decide) (by decide) (by decide) ?_
  replace h := Option.bind_eq_some_iff.mp h; obtain ⟨w19, hw19, h⟩ := h
  refine ev_pRF dX10_init_72 rfl mFit_a fp_X10_46 hw19 rfl ?_
  cases h
  exact ev_vret dX10_init_75 rfl
def f_X10_addChances_J70 (kc : Int32 → mW → Option (mW)) (o : Nat) (v1 : Option Nat) (v2 : Int32) (v3 : Int32) (v4 : Int32) (w : mW) : Option (mW) := kc (v4 + (1 : Int32)) w
set_option maxRecDepth 100000 in
set_option maxHeartbeats 4000000 in
theorem e_X10_addChances_J70 {X : mXs} {r : Option mV} {w' : mW} (P : (mW) → Prop) (o : Nat) (v1 : Option Nat) (v2 : Int32) (v3 : Int32) (v4 : Int32) (w : mW) (kc : Int32 → mW → Option (mW)) (hk : ∀ (u4 : Int32) (uw : mW) (e : mW), kc u4 uw = some e → P e → mEv X M_X10_addChances 3 r w' 10 [some (vr ((some o))), some (vr v1), some (vi v2), some (vi v3), some (vi u4), none] [] uw) (e : mW) (h : f_X10_addChances_J70 kc o v1 v2 v3 v4 w = some e) (hP : P e) : mEv X M_X10_addChances 3 r w' 70 [some (vr ((some o))), some (vr v1), some (vi v2), some (vi v3), some (vi v4), none] [] w := by
  unfold f_X10_addChances_J70 at h
  refine ev_iinc (q := 73) (v := v4 + (1 : Int32)) dX10_addChances_70 rfl (by decide) rfl (by rfl) ?_
  refine ev_goto (q := 10) dX10_addChances_73 (by decide) ?_
  exact ev_weak _ (mLe_some (mLe_some (mLe_some (mLe_some (mLe_some (mLe_none mLe_nil)))))) (hk (v4 + (1 : Int32)) w _ h hP)
def f_X10_addChances_L10 (o : Nat) (v1 : Option Nat) (v2 : Int32) (v3 : Int32) : Nat → Int32 → mW → Option (mW)
  | 0, _, _ => none
  | n + 1, v4, w => if (1 : Int32) < v4 then (some (w)) else (Option.bind (f_X10_cellAt ((v2 / (6 : Int32)) + v3) ((v2 - v2 / (6 : Int32) * (6 : Int32)) + v4) w) fun r1 => if r1 = (-1 : Int32) then (f_X10_addChances_J70 (f_X10_addChances_L10 o v1 v2 v3 n) o v1 v2 v3 v4 w) else (Option.bind (dv_spreads v1 v3 v4 w) fun r2 => if r2 = 0 then (f_X10_addChances_J70 (f_X10_addChances_L10 o v1 v2 v3 n) o v1 v2 v3 v4 w) else (Option.bind (gR w (some o) 10 6) fun r3 => Option.bind (gR w (some o) 10 6) fun r4 => Option.bind (f_X10_at r4 r1 w) fun r5 => Option.bind (f_X10_put r3 r1 (r5 + (1 : Int32)) w) fun w6 => f_X10_addChances_J70 (f_X10_addChances_L10 o v1 v2 v3 n) o v1 v2 v3 v4 w6)))
set_option maxRecDepth 100000 in
set_option maxHeartbeats 4000000 in
theorem e_X10_addChances_L10 {X : mXs} {r : Option mV} {w' : mW} (P : (mW) → Prop) (o : Nat) (v1 : Option Nat) (v2 : Int32) (v3 : Int32) (hexit : ∀ y, P y → mEv X M_X10_addChances 3 r w' 76 [some (vr ((some o))), some (vr v1), some (vi v2), some (vi v3), none, none] [] y) : ∀ (n : Nat) (v4 : Int32) (w : mW) (e : mW), f_X10_addChances_L10 o v1 v2 v3 n v4 w = some e → P e → mEv X M_X10_addChances 3 r w' 10 [some (vr ((some o))), some (vr v1), some (vi v2), some (vi v3), some (vi v4), none] [] w := by
  intro n
  induction n with
  | zero =>
    intro v4 w e h hP
    rw [f_X10_addChances_L10] at h
    cases h
  | succ n hk =>
    intro v4 w e h hP
    rw [f_X10_addChances_L10] at h
    refine ev_iload (q := 12) dX10_addChances_10 rfl rfl ?_
    refine ev_iconst (q := 13) (v := (1 : Int32)) dX10_addChances_12 rfl (by decide) ?_
    by_cases hc : (1 : Int32) < v4
    · rw [if_pos hc] at h
      refine ev_icmp_gt_t (q := 76) dX10_addChances_13 (by decide) hc ?_
      cases h
      exact ev_weak _ (mLe_some (mLe_some (mLe_some (mLe_some (mLe_none (mLe_none mLe_nil)))))) (hexit _ hP)
    · rw [if_neg hc] at h
      refine ev_icmp_gt_f (q := 16) (t0 := 76) dX10_addChances_13 (by decide) rfl hc ?_
      refine ev_iload_n (q := 17) dX10_addChances_16 rfl rfl ?_
      refine ev_bipush (q := 19) (v := (6 : Int32)) dX10_addChances_17 rfl (by decide) ?_
      refine ev_idiv (q := 20) dX10_addChances_19 rfl (by decide) ?_
      refine ev_iload_n (q := 21) dX10_addChances_20 rfl rfl ?_
      refine ev_iadd (q := 22) dX10_addChances_21 rfl ?_
      refine ev_iload_n (q := 23) dX10_addChances_22 rfl rfl ?_
      refine ev_bipush (q := 25) (v := (6 : Int32)) dX10_addChances_23 rfl (by decide) ?_
      refine ev_irem (q := 26) dX10_addChances_25 rfl (by decide) ?_
      refine ev_iload (q := 28) dX10_addChances_26 rfl rfl ?_
      refine ev_iadd (q := 29) dX10_addChances_28 rfl ?_
      replace h := Option.bind_eq_some_iff.mp h; obtain ⟨r1, hr1, h⟩ := h
      refine ev_invS (M1 := M_X10_cellAt) (as := [vi ((v2 / (6 : Int32)) + v3), vi ((v2 - v2 / (6 : Int32) * (6 : Int32)) + v4)]) dX10_addChances_29 rfl tw_523 cal_X10_cellAt tw_323 (by decide) rfl rfl (Nat.le_of_ble_eq_true rfl) (met_X10_cellAt ((v2 / (6 : Int32)) + v3) ((v2 - v2 / (6 : Int32) * (6 : Int32)) + v4) w _ hr1) ?_
      refine ev_istore (q := 34) dX10_addChances_32 rfl (by decide) ?_
      refine ev_iload (q := 36) dX10_addChances_34 rfl rfl ?_
      refine ev_iconst (q := 37) (v := (-1 : Int32)) dX10_addChances_36 rfl (by decide) ?_
      by_cases hc : r1 = (-1 : Int32)
      · rw [if_pos hc] at h
        refine ev_icmp_eq_t (q := 70) dX10_addChances_37 (by decide) hc ?_
        exact ev_weak _ (mLe_some (mLe_some (mLe_some (mLe_some (mLe_some (mLe_none mLe_nil)))))) (e_X10_addChances_J70 P o v1 v2 v3 v4 w _ hk  _ h hP)
      · rw [if_neg hc] at h
        refine ev_icmp_eq_f (q := 40) (t0 := 70) dX10_addChances_37 (by decide) rfl hc ?_
        refine ev_aload_n (q := 41) dX10_addChances_40 rfl rfl ?_
        refine ev_iload_n (q := 42) dX10_addChances_41 rfl rfl ?_
        refine ev_iload (q := 44) dX10_addChances_42 rfl rfl ?_
        replace h := Option.bind_eq_some_iff.mp h; obtain ⟨r2, hr2, h⟩ := h
        refine ev_dv_spreads dX10_addChances_44 rfl tw_528 (by decide) (Nat.le_of_ble_eq_true rfl) hr2 ?_
        by_cases hc : r2 = 0
        · rw [if_pos hc] at h
          refine ev_if_eq_t (q := 70) dX10_addChances_47 (by decide) hc ?_
          exact ev_weak _ (mLe_some (mLe_some (mLe_some (mLe_some (mLe_some (mLe_none mLe_nil)))))) (e_X10_addChances_J70 P o v1 v2 v3 v4 w _ hk  _ h hP)
        · rw [if_neg hc] at h
          refine ev_if_eq_f (q := 50) (t0 := 70) dX10_addChances_47 (by decide) rfl hc ?_
          refine ev_aload_n (q := 51) dX10_addChances_50 rfl rfl ?_
          replace h := Option.bind_eq_some_iff.mp h; obtain ⟨r3, hr3, h⟩ := h
          refine ev_gR dX10_addChances_51 fl_X10_46 hr3 rfl ?_
          refine ev_iload (q := 56) dX10_addChances_54 rfl rfl ?_
          refine ev_aload_n (q := 57) dX10_addChances_56 rfl rfl ?_
          replace h := Option.bind_eq_some_iff.mp h; obtain ⟨r4, hr4, h⟩ := h
          refine ev_gR dX10_addChances_57 fl_X10_46 hr4 rfl ?_
          refine ev_iload (q := 62) dX10_addChances_60 rfl rfl ?_
          replace h := Option.bind_eq_some_iff.mp h; obtain ⟨r5, hr5, h⟩ := h
          refine ev_invS (M1 := M_X10_at) (as := [vr r4, vi r1]) dX10_addChances_62 rfl tw_460 cal_X10_at tw_308 (by decide) rfl rfl (Nat.le_of_ble_eq_true rfl) (met_X10_at r4 r1 w _ hr5) ?_
          refine ev_iconst (q := 66) (v := (1 : Int32)) dX10_addChances_65 rfl (by decide) ?_
          refine ev_iadd (q := 67) dX10_addChances_66 rfl ?_
          replace h := Option.bind_eq_some_iff.mp h; obtain ⟨w6, hw6, h⟩ := h
          refine ev_invS (M1 := M_X10_put) (as := [vr r3, vi r1, vi (r5 + (1 : Int32))]) dX10_addChances_67 rfl tw_456 cal_X10_put tw_293 (by decide) rfl rfl (Nat.le_of_ble_eq_true rfl) (met_X10_put r3 r1 (r5 + (1 : Int32)) w _ hw6) ?_
          exact ev_weak _ (mLe_some (mLe_some (mLe_some (mLe_some (mLe_some (mLe_none mLe_nil)))))) (e_X10_addChances_J70 P o v1 v2 v3 v4 w6 _ hk  _ h hP)
def f_X10_addChances_L2 (o : Nat) (v1 : Option Nat) (v2 : Int32) : Nat → Int32 → mW → Option (mW)
  | 0, _, _ => none
  | n + 1, v3, w => if (1 : Int32) < v3 then (some (w)) else (Option.bind (f_X10_addChances_L10 o v1 v2 v3 mFuel (-1 : Int32) w) fun e7 => (f_X10_addChances_L2 o v1 v2 n) (v3 + (1 : Int32)) e7)
set_option maxRecDepth 100000 in
set_option maxHeartbeats 4000000 in
theorem e_X10_addChances_L2 {X : mXs} {r : Option mV} {w' : mW} (P : (mW) → Prop) (o : Nat) (v1 : Option Nat) (v2 : Int32) (hexit : ∀ y, P y → mEv X M_X10_addChances 3 r w' 82 [none, none, none, none, none, none] [] y) : ∀ (n : Nat) (v3 : Int32) (w : mW) (e : mW), f_X10_addChances_L2 o v1 v2 n v3 w = some e → P e → mEv X M_X10_addChances 3 r w' 2 [some (vr ((some o))), some (vr v1), some (vi v2), some (vi v3), none, none] [] w := by
  intro n
  induction n with
  | zero =>
    intro v3 w e h hP
    rw [f_X10_addChances_L2] at h
    cases h
  | succ n hk =>
    intro v3 w e h hP
    rw [f_X10_addChances_L2] at h
    refine ev_iload_n (q := 3) dX10_addChances_2 rfl rfl ?_
    refine ev_iconst (q := 4) (v := (1 : Int32)) dX10_addChances_3 rfl (by decide) ?_
    by_cases hc : (1 : Int32) < v3
    · rw [if_pos hc] at h
      refine ev_icmp_gt_t (q := 82) dX10_addChances_4 (by decide) hc ?_
      cases h
      exact ev_weak _ (mLe_none (mLe_none (mLe_none (mLe_none (mLe_none (mLe_none mLe_nil)))))) (hexit _ hP)
    · rw [if_neg hc] at h
      refine ev_icmp_gt_f (q := 7) (t0 := 82) dX10_addChances_4 (by decide) rfl hc ?_
      refine ev_iconst (q := 8) (v := (-1 : Int32)) dX10_addChances_7 rfl (by decide) ?_
      refine ev_istore (q := 10) dX10_addChances_8 rfl (by decide) ?_
      replace h := Option.bind_eq_some_iff.mp h; obtain ⟨e7, he7, h⟩ := h
      refine ev_weak _ (mLe_some (mLe_some (mLe_some (mLe_some (mLe_some (mLe_none mLe_nil)))))) (e_X10_addChances_L10 (fun z => e7 = z) o v1 v2 v3 (fun e7q hq => ?_) mFuel (-1 : Int32) w _ he7 rfl)
      subst hq
      refine ev_iinc (q := 79) (v := v3 + (1 : Int32)) dX10_addChances_76 rfl (by decide) rfl (by rfl) ?_
      refine ev_goto (q := 2) dX10_addChances_79 (by decide) ?_
      exact ev_weak _ (mLe_some (mLe_some (mLe_some (mLe_some (mLe_none (mLe_none mLe_nil)))))) (hk (v3 + (1 : Int32)) e7 _ h hP)
def f_X10_addChances (o : Nat) (v1 : Option Nat) (v2 : Int32) (w : mW) : Option (mW) := Option.bind (f_X10_addChances_L2 o v1 v2 mFuel (-1 : Int32) w) fun e8 => some (e8)
set_option maxRecDepth 100000 in
set_option maxHeartbeats 4000000 in
theorem met_X10_addChances (o : Nat) (v1 : Option Nat) (v2 : Int32) (w : mW) (res : mW) (h : f_X10_addChances o v1 v2 w = some res) : mMet M_X10_addChances 3 [vr ((some o)), vr v1, vi v2] w none res := by
  refine ev_met (n := 3) (by decide) rfl fun X => ?_
  unfold f_X10_addChances at h
  show mEv X M_X10_addChances 3 _ _ 0 [some (vr ((some o))), some (vr v1), some (vi v2), none, none, none] [] w
  refine ev_iconst (q := 1) (v := (-1 : Int32)) dX10_addChances_0 rfl (by decide) ?_
  refine ev_istore_n (q := 2) dX10_addChances_1 rfl (by decide) ?_
  replace h := Option.bind_eq_some_iff.mp h; obtain ⟨e8, he8, h⟩ := h
  refine ev_weak _ (mLe_some (mLe_some (mLe_some (mLe_some (mLe_none (mLe_none mLe_nil)))))) (e_X10_addChances_L2 (fun z => e8 = z) o v1 v2 (fun e8q hq => ?_) mFuel (-1 : Int32) w _ he8 rfl)
  subst hq
  cases h
  exact ev_vret dX10_addChances_82 rfl
def f_X10_crowdUnder_J97 (kc : Int32 → Int32 → Option (Int32)) (o : Nat) (v4 : Option Nat) (v5 : Int32) (v6 : Int32) (v7 : Int32) (w : mW) : Option (Int32) := kc v6 (v7 + (1 : Int32))
set_option maxRecDepth 100000 in
set_option maxHeartbeats 4000000 in
theorem e_X10_crowdUnder_J97 {X : mXs} {r : Option mV} {w' : mW} (P : (Int32) → Prop) (o : Nat) (v4 : Option Nat) (v5 : Int32) (v6 : Int32) (v7 : Int32) (w : mW) (kc : Int32 → Int32 → Option (Int32)) (hk : ∀ (u6 : Int32) (u7 : Int32) (e : Int32), kc u6 u7 = some e → P e → mEv X M_X10_crowdUnder 3 r w' 35 [some (vr ((some o))), none, none, none, some (vr v4), some (vi v5), some (vi u6), some (vi u7), none] [] w) (e : Int32) (h : f_X10_crowdUnder_J97 kc o v4 v5 v6 v7 w = some e) (hP : P e) : mEv X M_X10_crowdUnder 3 r w' 97 [some (vr ((some o))), none, none, none, some (vr v4), some (vi v5), some (vi v6), some (vi v7), none] [] w := by
  unfold f_X10_crowdUnder_J97 at h
  refine ev_iinc (q := 100) (v := v7 + (1 : Int32)) dX10_crowdUnder_97 rfl (by decide) rfl (by rfl) ?_
  refine ev_goto (q := 35) dX10_crowdUnder_100 (by decide) ?_
  exact ev_weak _ (mLe_some (mLe_none (mLe_none (mLe_none (mLe_some (mLe_some (mLe_some (mLe_some (mLe_none mLe_nil))))))))) (hk v6 (v7 + (1 : Int32)) _ h hP)
def f_X10_crowdUnder_L35 (o : Nat) (v4 : Option Nat) (v5 : Int32) (w : mW) : Nat → Int32 → Int32 → Option (Int32)
  | 0, _, _ => none
  | n + 1, v6, v7 => Option.bind (gI w (some o) 10 7) fun r1 => if r1 ≤ v7 then (some (v6)) else (Option.bind (gR w (some o) 10 3) fun r2 => Option.bind (gR w r2 2 0) fun r3 => Option.bind (f_X10_at r3 v7 w) fun r4 => Option.bind (dv_spreads v4 ((r4 / (6 : Int32)) - (v5 / (6 : Int32))) ((r4 - r4 / (6 : Int32) * (6 : Int32)) - (v5 - v5 / (6 : Int32) * (6 : Int32))) w) fun r5 => if r5 = 0 then (f_X10_crowdUnder_J97 (f_X10_crowdUnder_L35 o v4 v5 w n) o v4 v5 v6 v7 w) else (f_X10_crowdUnder_J97 (f_X10_crowdUnder_L35 o v4 v5 w n) o v4 v5 (v6 ||| ((1 : Int32) <<< (v7 &&& 31))) v7 w))
set_option maxRecDepth 100000 in
set_option maxHeartbeats 4000000 in
theorem e_X10_crowdUnder_L35 {X : mXs} {r : Option mV} {w' : mW} (P : (Int32) → Prop) (o : Nat) (v4 : Option Nat) (v5 : Int32) (w : mW) (hexit : ∀ y, P y → mEv X M_X10_crowdUnder 3 r w' 103 [none, none, none, none, none, none, some (vi y), none, none] [] w) : ∀ (n : Nat) (v6 : Int32) (v7 : Int32) (e : Int32), f_X10_crowdUnder_L35 o v4 v5 w n v6 v7 = some e → P e → mEv X M_X10_crowdUnder 3 r w' 35 [some (vr ((some o))), none, none, none, some (vr v4), some (vi v5), some (vi v6), some (vi v7), none] [] w := by
  intro n
  induction n with
  | zero =>
    intro v6 v7 e h hP
    rw [f_X10_crowdUnder_L35] at h
    cases h
  | succ n hk =>
    intro v6 v7 e h hP
    rw [f_X10_crowdUnder_L35] at h
    refine ev_iload (q := 37) dX10_crowdUnder_35 rfl rfl ?_
    refine ev_aload_n (q := 38) dX10_crowdUnder_37 rfl rfl ?_
    replace h := Option.bind_eq_some_iff.mp h; obtain ⟨r1, hr1, h⟩ := h
    refine ev_gI dX10_crowdUnder_38 fl_X10_72 hr1 rfl ?_
    by_cases hc : r1 ≤ v7
    · rw [if_pos hc] at h
      refine ev_icmp_ge_t (q := 103) dX10_crowdUnder_41 (by decide) hc ?_
      cases h
      exact ev_weak _ (mLe_none (mLe_none (mLe_none (mLe_none (mLe_none (mLe_none (mLe_some (mLe_none (mLe_none mLe_nil))))))))) (hexit _ hP)
    · rw [if_neg hc] at h
      refine ev_icmp_ge_f (q := 44) (t0 := 103) dX10_crowdUnder_41 (by decide) rfl hc ?_
      refine ev_aload_n (q := 45) dX10_crowdUnder_44 rfl rfl ?_
      replace h := Option.bind_eq_some_iff.mp h; obtain ⟨r2, hr2, h⟩ := h
      refine ev_gR dX10_crowdUnder_45 fl_X10_32 hr2 rfl ?_
      replace h := Option.bind_eq_some_iff.mp h; obtain ⟨r3, hr3, h⟩ := h
      refine ev_gR dX10_crowdUnder_48 fl_X10_79 hr3 rfl ?_
      refine ev_iload (q := 53) dX10_crowdUnder_51 rfl rfl ?_
      replace h := Option.bind_eq_some_iff.mp h; obtain ⟨r4, hr4, h⟩ := h
      refine ev_invS (M1 := M_X10_at) (as := [vr r3, vi v7]) dX10_crowdUnder_53 rfl tw_460 cal_X10_at tw_308 (by decide) rfl rfl (Nat.le_of_ble_eq_true rfl) (met_X10_at r3 v7 w _ hr4) ?_
      refine ev_istore (q := 58) dX10_crowdUnder_56 rfl (by decide) ?_
      refine ev_aload (q := 60) dX10_crowdUnder_58 rfl rfl ?_
      refine ev_iload (q := 62) dX10_crowdUnder_60 rfl rfl ?_
      refine ev_bipush (q := 64) (v := (6 : Int32)) dX10_crowdUnder_62 rfl (by decide) ?_
      refine ev_idiv (q := 65) dX10_crowdUnder_64 rfl (by decide) ?_
      refine ev_iload (q := 67) dX10_crowdUnder_65 rfl rfl ?_
      refine ev_bipush (q := 69) (v := (6 : Int32)) dX10_crowdUnder_67 rfl (by decide) ?_
      refine ev_idiv (q := 70) dX10_crowdUnder_69 rfl (by decide) ?_
      refine ev_isub (q := 71) dX10_crowdUnder_70 rfl ?_
      refine ev_iload (q := 73) dX10_crowdUnder_71 rfl rfl ?_
      refine ev_bipush (q := 75) (v := (6 : Int32)) dX10_crowdUnder_73 rfl (by decide) ?_
      refine ev_irem (q := 76) dX10_crowdUnder_75 rfl (by decide) ?_
      refine ev_iload (q := 78) dX10_crowdUnder_76 rfl rfl ?_
      refine ev_bipush (q := 80) (v := (6 : Int32)) dX10_crowdUnder_78 rfl (by decide) ?_
      refine ev_irem (q := 81) dX10_crowdUnder_80 rfl (by decide) ?_
      refine ev_isub (q := 82) dX10_crowdUnder_81 rfl ?_
      replace h := Option.bind_eq_some_iff.mp h; obtain ⟨r5, hr5, h⟩ := h
      refine ev_dv_spreads dX10_crowdUnder_82 rfl tw_528 (by decide) (Nat.le_of_ble_eq_true rfl) hr5 ?_
      by_cases hc : r5 = 0
      · rw [if_pos hc] at h
        refine ev_if_eq_t (q := 97) dX10_crowdUnder_85 (by decide) hc ?_
        exact ev_weak _ (mLe_some (mLe_none (mLe_none (mLe_none (mLe_some (mLe_some (mLe_some (mLe_some (mLe_none mLe_nil))))))))) (e_X10_crowdUnder_J97 P o v4 v5 v6 v7 w _ hk  _ h hP)
      · rw [if_neg hc] at h
        refine ev_if_eq_f (q := 88) (t0 := 97) dX10_crowdUnder_85 (by decide) rfl hc ?_
        refine ev_iload (q := 90) dX10_crowdUnder_88 rfl rfl ?_
        refine ev_iconst (q := 91) (v := (1 : Int32)) dX10_crowdUnder_90 rfl (by decide) ?_
        refine ev_iload (q := 93) dX10_crowdUnder_91 rfl rfl ?_
        refine ev_ishl (q := 94) dX10_crowdUnder_93 rfl ?_
        refine ev_ior (q := 95) dX10_crowdUnder_94 rfl ?_
        refine ev_istore (q := 97) dX10_crowdUnder_95 rfl (by decide) ?_
        exact ev_weak _ (mLe_some (mLe_none (mLe_none (mLe_none (mLe_some (mLe_some (mLe_some (mLe_some (mLe_none mLe_nil))))))))) (e_X10_crowdUnder_J97 P o v4 v5 (v6 ||| ((1 : Int32) <<< (v7 &&& 31))) v7 w _ hk  _ h hP)
def f_X10_crowdUnder_J27 (w : mW) : Option (Int32) := some ((0 : Int32))
set_option maxRecDepth 100000 in
set_option maxHeartbeats 4000000 in
theorem e_X10_crowdUnder_J27 {X : mXs} (w : mW) (res : Int32) (h : f_X10_crowdUnder_J27 w = some res) : mEv X M_X10_crowdUnder 3 (some (vi res)) w 27 [none, none, none, none, none, none, none, none, none] [] w := by
  unfold f_X10_crowdUnder_J27 at h
  refine ev_iconst (q := 28) (v := (0 : Int32)) dX10_crowdUnder_27 rfl (by decide) ?_
  cases h
  exact ev_iret dX10_crowdUnder_28 rfl rfl
def f_X10_crowdUnder (o : Nat) (v1 : Int32) (v2 : Int32) (v3 : Int32) (w : mW) : Option (Int32) := Option.bind (kO w (some o) 10) fun _ => Option.bind (f_X10_tosserAt o v1 w) fun r6 => Option.bind (kO w (some o) 10) fun _ => Option.bind (f_X10_landing o v1 v2 v3 w) fun r8 => oC r6 (f_X10_crowdUnder_J27 w) (fun a10 => if r8 = (-1 : Int32) then (f_X10_crowdUnder_J27 w) else (Option.bind (f_X10_crowdUnder_L35 o (some a10) r8 w mFuel (0 : Int32) (0 : Int32)) fun e11 => some (e11)))
set_option maxRecDepth 100000 in
set_option maxHeartbeats 4000000 in
theorem met_X10_crowdUnder (o : Nat) (v1 : Int32) (v2 : Int32) (v3 : Int32) (w : mW) (res : Int32) (h : f_X10_crowdUnder o v1 v2 v3 w = some res) : mMet M_X10_crowdUnder 3 [vr ((some o)), vi v1, vi v2, vi v3] w (some (vi res)) w := by
  refine ev_met (n := 5) (by decide) rfl fun X => ?_
  unfold f_X10_crowdUnder at h
  show mEv X M_X10_crowdUnder 3 _ _ 0 [some (vr ((some o))), some (vi v1), some (vi v2), some (vi v3), none, none, none, none, none] [] w
  refine ev_aload_n (q := 1) dX10_crowdUnder_0 rfl rfl ?_
  refine ev_iload_n (q := 2) dX10_crowdUnder_1 rfl rfl ?_
  replace h := Option.bind_eq_some_iff.mp h; obtain ⟨q7, hq7, h⟩ := h
  obtain ⟨hxq7, fsq7, hkq7⟩ := kO_spec hq7
  cases hxq7
  replace h := Option.bind_eq_some_iff.mp h; obtain ⟨r6, hr6, h⟩ := h
  refine ev_invV (M1 := M_X10_tosserAt) (as := [vi v1]) (fs := fsq7) (ci := 10) dX10_crowdUnder_2 rfl tw_515 cal_X10_tosserAt tw_517 tw_12 (by decide) rfl rfl (Nat.le_of_ble_eq_true rfl) hkq7 rfl (met_X10_tosserAt o v1 w _ hr6) ?_
  refine ev_astore (q := 7) dX10_crowdUnder_5 rfl (by decide) ?_
  refine ev_aload_n (q := 8) dX10_crowdUnder_7 rfl rfl ?_
  refine ev_iload_n (q := 9) dX10_crowdUnder_8 rfl rfl ?_
  refine ev_iload_n (q := 10) dX10_crowdUnder_9 rfl rfl ?_
  refine ev_iload_n (q := 11) dX10_crowdUnder_10 rfl rfl ?_
  replace h := Option.bind_eq_some_iff.mp h; obtain ⟨q9, hq9, h⟩ := h
  obtain ⟨hxq9, fsq9, hkq9⟩ := kO_spec hq9
  cases hxq9
  replace h := Option.bind_eq_some_iff.mp h; obtain ⟨r8, hr8, h⟩ := h
  refine ev_invV (M1 := M_X10_landing) (as := [vi v1, vi v2, vi v3]) (fs := fsq9) (ci := 10) dX10_crowdUnder_11 rfl tw_519 cal_X10_landing tw_521 tw_13 (by decide) rfl rfl (Nat.le_of_ble_eq_true rfl) hkq9 rfl (met_X10_landing o v1 v2 v3 w _ hr8) ?_
  refine ev_istore (q := 16) dX10_crowdUnder_14 rfl (by decide) ?_
  refine ev_aload (q := 18) dX10_crowdUnder_16 rfl rfl ?_
  rcases r6 with _ | a10
  · dsimp only [oC] at h
    refine ev_ifnull_t (q := 27) dX10_crowdUnder_18 (by decide) ?_
    exact ev_weak _ (mLe_none (mLe_none (mLe_none (mLe_none (mLe_none (mLe_none (mLe_none (mLe_none (mLe_none mLe_nil))))))))) (e_X10_crowdUnder_J27 w _ h)
  · dsimp only [oC] at h
    refine ev_ifnull_f (q := 21) dX10_crowdUnder_18 rfl ?_
    refine ev_iload (q := 23) dX10_crowdUnder_21 rfl rfl ?_
    refine ev_iconst (q := 24) (v := (-1 : Int32)) dX10_crowdUnder_23 rfl (by decide) ?_
    by_cases hc : r8 = (-1 : Int32)
    · rw [if_pos hc] at h
      refine ev_icmp_ne_f (q := 27) (t0 := 29) dX10_crowdUnder_24 (by decide) rfl hc ?_
      exact ev_weak _ (mLe_none (mLe_none (mLe_none (mLe_none (mLe_none (mLe_none (mLe_none (mLe_none (mLe_none mLe_nil))))))))) (e_X10_crowdUnder_J27 w _ h)
    · rw [if_neg hc] at h
      refine ev_icmp_ne_t (q := 29) dX10_crowdUnder_24 (by decide) hc ?_
      refine ev_iconst (q := 30) (v := (0 : Int32)) dX10_crowdUnder_29 rfl (by decide) ?_
      refine ev_istore (q := 32) dX10_crowdUnder_30 rfl (by decide) ?_
      refine ev_iconst (q := 33) (v := (0 : Int32)) dX10_crowdUnder_32 rfl (by decide) ?_
      refine ev_istore (q := 35) dX10_crowdUnder_33 rfl (by decide) ?_
      replace h := Option.bind_eq_some_iff.mp h; obtain ⟨e11, he11, h⟩ := h
      refine ev_weak _ (mLe_some (mLe_none (mLe_none (mLe_none (mLe_some (mLe_some (mLe_some (mLe_some (mLe_none mLe_nil))))))))) (e_X10_crowdUnder_L35 (fun z => e11 = z) o (some a10) r8 w (fun e11q hq => ?_) mFuel (0 : Int32) (0 : Int32) _ he11 rfl)
      subst hq
      refine ev_iload (q := 105) dX10_crowdUnder_103 rfl rfl ?_
      cases h
      exact ev_iret dX10_crowdUnder_105 rfl rfl
