def f_X11_mostOf_J83 (s0 : Int32) (w : mW) : Option (Int32) := some (s0)
set_option maxRecDepth 100000 in
set_option maxHeartbeats 4000000 in
theorem e_X11_mostOf_J83 {X : mXs} (s0 : Int32) (w : mW) (res : Int32) (h : f_X11_mostOf_J83 s0 w = some res) : mEv X M_X11_mostOf 5 (some (vi res)) w 83 [none, none, none, none, none, none, none] [vi s0] w := by
  unfold f_X11_mostOf_J83 at h
  cases h
  exact ev_iret dX11_mostOf_83 rfl rfl
def f_X11_mostOf_J64 (kc : Int32 → Int32 → Int32 → Option (Int32 × Int32)) (o : Nat) (v1 : Int32) (v2 : Int32) (v3 : Int32) (v5 : Int32) (s0 : Int32) (w : mW) : Option (Int32 × Int32) := kc v3 s0 (v5 + (1 : Int32))
set_option maxRecDepth 100000 in
set_option maxHeartbeats 4000000 in
theorem e_X11_mostOf_J64 {X : mXs} {r : Option mV} {w' : mW} (P : (Int32 × Int32) → Prop) (o : Nat) (v1 : Int32) (v2 : Int32) (v3 : Int32) (v5 : Int32) (s0 : Int32) (w : mW) (kc : Int32 → Int32 → Int32 → Option (Int32 × Int32)) (hk : ∀ (u3 : Int32) (u4 : Int32) (u5 : Int32) (e : Int32 × Int32), kc u3 u4 u5 = some e → P e → mEv X M_X11_mostOf 5 r w' 8 [some (vr ((some o))), some (vi v1), some (vi v2), some (vi u3), some (vi u4), some (vi u5), none] [] w) (e : Int32 × Int32) (h : f_X11_mostOf_J64 kc o v1 v2 v3 v5 s0 w = some e) (hP : P e) : mEv X M_X11_mostOf 5 r w' 64 [some (vr ((some o))), some (vi v1), some (vi v2), some (vi v3), none, some (vi v5), none] [vi s0] w := by
  unfold f_X11_mostOf_J64 at h
  refine ev_istore (q := 66) dX11_mostOf_64 rfl (by decide) ?_
  refine ev_iinc (q := 69) (v := v5 + (1 : Int32)) dX11_mostOf_66 rfl (by decide) rfl (by rfl) ?_
  refine ev_goto (q := 8) dX11_mostOf_69 (by decide) ?_
  exact ev_weak _ (mLe_some (mLe_some (mLe_some (mLe_some (mLe_some (mLe_some (mLe_none mLe_nil))))))) (hk v3 s0 (v5 + (1 : Int32)) _ h hP)
def f_X11_mostOf_J49 (kc : Int32 → Int32 → Int32 → Option (Int32 × Int32)) (o : Nat) (v1 : Int32) (v2 : Int32) (v4 : Int32) (v5 : Int32) (v6 : Int32) (s0 : Int32) (w : mW) : Option (Int32 × Int32) := if v6 ≤ v4 then (f_X11_mostOf_J64 kc o v1 v2 s0 v5 v4 w) else (f_X11_mostOf_J64 kc o v1 v2 s0 v5 v6 w)
set_option maxRecDepth 100000 in
set_option maxHeartbeats 4000000 in
theorem e_X11_mostOf_J49 {X : mXs} {r : Option mV} {w' : mW} (P : (Int32 × Int32) → Prop) (o : Nat) (v1 : Int32) (v2 : Int32) (v4 : Int32) (v5 : Int32) (v6 : Int32) (s0 : Int32) (w : mW) (kc : Int32 → Int32 → Int32 → Option (Int32 × Int32)) (hk : ∀ (u3 : Int32) (u4 : Int32) (u5 : Int32) (e : Int32 × Int32), kc u3 u4 u5 = some e → P e → mEv X M_X11_mostOf 5 r w' 8 [some (vr ((some o))), some (vi v1), some (vi v2), some (vi u3), some (vi u4), some (vi u5), none] [] w) (e : Int32 × Int32) (h : f_X11_mostOf_J49 kc o v1 v2 v4 v5 v6 s0 w = some e) (hP : P e) : mEv X M_X11_mostOf 5 r w' 49 [some (vr ((some o))), some (vi v1), some (vi v2), none, some (vi v4), some (vi v5), some (vi v6)] [vi s0] w := by
  unfold f_X11_mostOf_J49 at h
  refine ev_istore_n (q := 50) dX11_mostOf_49 rfl (by decide) ?_
  refine ev_iload (q := 52) dX11_mostOf_50 rfl rfl ?_
  refine ev_iload (q := 54) dX11_mostOf_52 rfl rfl ?_
  by_cases hc : v6 ≤ v4
  · rw [if_pos hc] at h
    refine ev_icmp_le_t (q := 62) dX11_mostOf_54 (by decide) hc ?_
    refine ev_iload (q := 64) dX11_mostOf_62 rfl rfl ?_
    exact ev_weak _ (mLe_some (mLe_some (mLe_some (mLe_some (mLe_none (mLe_some (mLe_none mLe_nil))))))) (e_X11_mostOf_J64 P o v1 v2 s0 v5 v4 w _ hk  _ h hP)
  · rw [if_neg hc] at h
    refine ev_icmp_le_f (q := 57) (t0 := 62) dX11_mostOf_54 (by decide) rfl hc ?_
    refine ev_iload (q := 59) dX11_mostOf_57 rfl rfl ?_
    refine ev_goto (q := 64) dX11_mostOf_59 (by decide) ?_
    exact ev_weak _ (mLe_some (mLe_some (mLe_some (mLe_some (mLe_none (mLe_some (mLe_none mLe_nil))))))) (e_X11_mostOf_J64 P o v1 v2 s0 v5 v6 w _ hk  _ h hP)
def f_X11_mostOf_L8 (o : Nat) (v1 : Int32) (v2 : Int32) (w : mW) : Nat → Int32 → Int32 → Int32 → Option (Int32 × Int32)
  | 0, _, _, _ => none
  | n + 1, v3, v4, v5 => if (36 : Int32) ≤ v5 then (some ((v3, v4))) else (Option.bind (gI w (some o) 11 5) fun r1 => Option.bind (kO w (some o) 11) fun _ => Option.bind (f_X11_coversOf o v1 v5 r1 w) fun r2 => Option.bind (kO w (some o) 11) fun _ => Option.bind (f_X11_open o  w) fun r4 => Option.bind (f_X11_ones (r2 &&& r4) w) fun r6 => if r6 ≤ v4 then (f_X11_mostOf_J49 (f_X11_mostOf_L8 o v1 v2 w n) o v1 v2 v4 v5 r6 v3 w) else (f_X11_mostOf_J49 (f_X11_mostOf_L8 o v1 v2 w n) o v1 v2 v4 v5 r6 v5 w))
set_option maxRecDepth 100000 in
set_option maxHeartbeats 4000000 in
theorem e_X11_mostOf_L8 {X : mXs} {r : Option mV} {w' : mW} (P : (Int32 × Int32) → Prop) (o : Nat) (v1 : Int32) (v2 : Int32) (w : mW) (hexit : ∀ y, P y → mEv X M_X11_mostOf 5 r w' 72 [none, none, some (vi v2), some (vi y.1), some (vi y.2), none, none] [] w) : ∀ (n : Nat) (v3 : Int32) (v4 : Int32) (v5 : Int32) (e : Int32 × Int32), f_X11_mostOf_L8 o v1 v2 w n v3 v4 v5 = some e → P e → mEv X M_X11_mostOf 5 r w' 8 [some (vr ((some o))), some (vi v1), some (vi v2), some (vi v3), some (vi v4), some (vi v5), none] [] w := by
  intro n
  induction n with
  | zero =>
    intro v3 v4 v5 e h hP
    rw [f_X11_mostOf_L8] at h
    cases h
  | succ n hk =>
    intro v3 v4 v5 e h hP
    rw [f_X11_mostOf_L8] at h
    refine ev_iload (q := 10) dX11_mostOf_8 rfl rfl ?_
    refine ev_bipush (q := 12) (v := (36 : Int32)) dX11_mostOf_10 rfl (by decide) ?_
    by_cases hc : (36 : Int32) ≤ v5
    · rw [if_pos hc] at h
      refine ev_icmp_ge_t (q := 72) dX11_mostOf_12 (by decide) hc ?_
      cases h
      exact ev_weak _ (mLe_none (mLe_none (mLe_some (mLe_some (mLe_some (mLe_none (mLe_none mLe_nil))))))) (hexit _ hP)
    · rw [if_neg hc] at h
      refine ev_icmp_ge_f (q := 15) (t0 := 72) dX11_mostOf_12 (by decide) rfl hc ?_
      refine ev_aload_n (q := 16) dX11_mostOf_15 rfl rfl ?_
      refine ev_iload_n (q := 17) dX11_mostOf_16 rfl rfl ?_
      refine ev_iload (q := 19) dX11_mostOf_17 rfl rfl ?_
      refine ev_aload_n (q := 20) dX11_mostOf_19 rfl rfl ?_
      replace h := Option.bind_eq_some_iff.mp h; obtain ⟨r1, hr1, h⟩ := h
      refine ev_gI dX11_mostOf_20 fl_X11_122 hr1 rfl ?_
      replace h := Option.bind_eq_some_iff.mp h; obtain ⟨q3, hq3, h⟩ := h
      obtain ⟨hxq3, fsq3, hkq3⟩ := kO_spec hq3
      cases hxq3
      replace h := Option.bind_eq_some_iff.mp h; obtain ⟨r2, hr2, h⟩ := h
      refine ev_invV (M1 := M_X11_coversOf) (as := [vi v1, vi v5, vi r1]) (fs := fsq3) (ci := 11) dX11_mostOf_23 rfl tw_1019 cal_X11_coversOf tw_1021 tw_36 (by decide) rfl rfl (Nat.le_of_ble_eq_true rfl) hkq3 rfl (met_X11_coversOf o v1 v5 r1 w _ hr2) ?_
      refine ev_aload_n (q := 27) dX11_mostOf_26 rfl rfl ?_
      replace h := Option.bind_eq_some_iff.mp h; obtain ⟨q5, hq5, h⟩ := h
      obtain ⟨hxq5, fsq5, hkq5⟩ := kO_spec hq5
      cases hxq5
      replace h := Option.bind_eq_some_iff.mp h; obtain ⟨r4, hr4, h⟩ := h
      refine ev_invV (M1 := M_X11_open) (as := []) (fs := fsq5) (ci := 11) dX11_mostOf_27 rfl tw_1072 cal_X11_open tw_1074 tw_45 (by decide) rfl rfl (Nat.le_of_ble_eq_true rfl) hkq5 rfl (met_X11_open o  w _ hr4) ?_
      refine ev_iand (q := 31) dX11_mostOf_30 rfl ?_
      replace h := Option.bind_eq_some_iff.mp h; obtain ⟨r6, hr6, h⟩ := h
      refine ev_invS (M1 := M_X11_ones) (as := [vi (r2 &&& r4)]) dX11_mostOf_31 rfl tw_1076 cal_X11_ones tw_1077 (by decide) rfl rfl (Nat.le_of_ble_eq_true rfl) (met_X11_ones (r2 &&& r4) w _ hr6) ?_
      refine ev_istore (q := 36) dX11_mostOf_34 rfl (by decide) ?_
      refine ev_iload (q := 38) dX11_mostOf_36 rfl rfl ?_
      refine ev_iload (q := 40) dX11_mostOf_38 rfl rfl ?_
      by_cases hc : r6 ≤ v4
      · rw [if_pos hc] at h
        refine ev_icmp_le_t (q := 48) dX11_mostOf_40 (by decide) hc ?_
        refine ev_iload_n (q := 49) dX11_mostOf_48 rfl rfl ?_
        exact ev_weak _ (mLe_some (mLe_some (mLe_some (mLe_none (mLe_some (mLe_some (mLe_some mLe_nil))))))) (e_X11_mostOf_J49 P o v1 v2 v4 v5 r6 v3 w _ hk  _ h hP)
      · rw [if_neg hc] at h
        refine ev_icmp_le_f (q := 43) (t0 := 48) dX11_mostOf_40 (by decide) rfl hc ?_
        refine ev_iload (q := 45) dX11_mostOf_43 rfl rfl ?_
        refine ev_goto (q := 49) dX11_mostOf_45 (by decide) ?_
        exact ev_weak _ (mLe_some (mLe_some (mLe_some (mLe_none (mLe_some (mLe_some (mLe_some mLe_nil))))))) (e_X11_mostOf_J49 P o v1 v2 v4 v5 r6 v5 w _ hk  _ h hP)
def f_X11_mostOf (o : Nat) (v1 : Int32) (v2 : Int32) (w : mW) : Option (Int32) := Option.bind (f_X11_mostOf_L8 o v1 v2 w mFuel (0 : Int32) (-1 : Int32) (0 : Int32)) fun e7 => if v2 = (4 : Int32) then (f_X11_mostOf_J83 e7.1 w) else (f_X11_mostOf_J83 e7.2 w)
set_option maxRecDepth 100000 in
set_option maxHeartbeats 4000000 in
theorem met_X11_mostOf (o : Nat) (v1 : Int32) (v2 : Int32) (w : mW) (res : Int32) (h : f_X11_mostOf o v1 v2 w = some res) : mMet M_X11_mostOf 5 [vr ((some o)), vi v1, vi v2] w (some (vi res)) w := by
  refine ev_met (n := 4) (by decide) rfl fun X => ?_
  unfold f_X11_mostOf at h
  show mEv X M_X11_mostOf 5 _ _ 0 [some (vr ((some o))), some (vi v1), some (vi v2), none, none, none, none] [] w
  refine ev_iconst (q := 1) (v := (0 : Int32)) dX11_mostOf_0 rfl (by decide) ?_
  refine ev_istore_n (q := 2) dX11_mostOf_1 rfl (by decide) ?_
  refine ev_iconst (q := 3) (v := (-1 : Int32)) dX11_mostOf_2 rfl (by decide) ?_
  refine ev_istore (q := 5) dX11_mostOf_3 rfl (by decide) ?_
  refine ev_iconst (q := 6) (v := (0 : Int32)) dX11_mostOf_5 rfl (by decide) ?_
  refine ev_istore (q := 8) dX11_mostOf_6 rfl (by decide) ?_
  replace h := Option.bind_eq_some_iff.mp h; obtain ⟨e7, he7, h⟩ := h
  refine ev_weak _ (mLe_some (mLe_some (mLe_some (mLe_some (mLe_some (mLe_some (mLe_none mLe_nil))))))) (e_X11_mostOf_L8 (fun z => e7 = z) o v1 v2 w (fun e7q hq => ?_) mFuel (0 : Int32) (-1 : Int32) (0 : Int32) _ he7 rfl)
  subst hq
  refine ev_iload_n (q := 73) dX11_mostOf_72 rfl rfl ?_
  refine ev_iconst (q := 74) (v := (4 : Int32)) dX11_mostOf_73 rfl (by decide) ?_
  by_cases hc : v2 = (4 : Int32)
  · rw [if_pos hc] at h
    refine ev_icmp_ne_f (q := 77) (t0 := 81) dX11_mostOf_74 (by decide) rfl hc ?_
    refine ev_iload_n (q := 78) dX11_mostOf_77 rfl rfl ?_
    refine ev_goto (q := 83) dX11_mostOf_78 (by decide) ?_
    exact ev_weak _ (mLe_none (mLe_none (mLe_none (mLe_none (mLe_none (mLe_none (mLe_none mLe_nil))))))) (e_X11_mostOf_J83 e7.1 w _ h)
  · rw [if_neg hc] at h
    refine ev_icmp_ne_t (q := 81) dX11_mostOf_74 (by decide) hc ?_
    refine ev_iload (q := 83) dX11_mostOf_81 rfl rfl ?_
    exact ev_weak _ (mLe_none (mLe_none (mLe_none (mLe_none (mLe_none (mLe_none (mLe_none mLe_nil))))))) (e_X11_mostOf_J83 e7.2 w _ h)
def f_X11_seasons_J145 (s0 : Int32) (w : mW) : Option (Int32 × mW) := some ((s0, w))
set_option maxRecDepth 100000 in
set_option maxHeartbeats 4000000 in
theorem e_X11_seasons_J145 {X : mXs} (s0 : Int32) (w : mW) (res : Int32 × mW) (h : f_X11_seasons_J145 s0 w = some res) : mEv X M_X11_seasons 5 (some (vi res.1)) res.2 145 [none, none, none, none, none, none, none, none, none, none] [vi s0] w := by
  unfold f_X11_seasons_J145 at h
  cases h
  exact ev_iret dX11_seasons_145 rfl rfl
def f_X11_seasons_L55 (o : Nat) (v1 : Int32) (v3 : Int32) : Nat → Int32 → Int32 → Int32 → mW → Option (Int32 × Int32 × mW)
  | 0, _, _, _, _ => none
  | n + 1, v4, v5, v6, w => if v1 ≤ v6 then (some ((v4, v5, w))) else (Option.bind (kO w (some o) 11) fun _ => Option.bind (f_X11_draw o (3 : Int32) w) fun r1 => Option.bind (gI r1.2 (some o) 11 4) fun r3 => Option.bind (kO r1.2 (some o) 11) fun _ => Option.bind (f_X11_draw o r3 r1.2) fun r4 => Option.bind (kO r4.2 (some o) 11) fun _ => Option.bind (f_X11_draw o (36 : Int32) r4.2) fun r6 => Option.bind (kO r6.2 (some o) 11) fun _ => Option.bind (f_X11_coversOf o r4.1 r6.1 (r1.1 - (1 : Int32)) r6.2) fun r8 => Option.bind (f_X11_ones r8 r6.2) fun r10 => (f_X11_seasons_L55 o v1 v3 n) (v4 + r10) (v5 ||| r8) (v6 + (1 : Int32)) r6.2)
set_option maxRecDepth 100000 in
set_option maxHeartbeats 4000000 in
theorem e_X11_seasons_L55 {X : mXs} {r : Option mV} {w' : mW} (P : (Int32 × Int32 × mW) → Prop) (o : Nat) (v1 : Int32) (v3 : Int32) (hexit : ∀ y, P y → mEv X M_X11_seasons 5 r w' 119 [some (vr ((some o))), none, none, some (vi v3), some (vi y.1), some (vi y.2.1), none, none, none, none] [] y.2.2) : ∀ (n : Nat) (v4 : Int32) (v5 : Int32) (v6 : Int32) (w : mW) (e : Int32 × Int32 × mW), f_X11_seasons_L55 o v1 v3 n v4 v5 v6 w = some e → P e → mEv X M_X11_seasons 5 r w' 55 [some (vr ((some o))), some (vi v1), none, some (vi v3), some (vi v4), some (vi v5), some (vi v6), none, none, none] [] w := by
  intro n
  induction n with
  | zero =>
    intro v4 v5 v6 w e h hP
    rw [f_X11_seasons_L55] at h
    cases h
  | succ n hk =>
    intro v4 v5 v6 w e h hP
    rw [f_X11_seasons_L55] at h
    refine ev_iload (q := 57) dX11_seasons_55 rfl rfl ?_
    refine ev_iload_n (q := 58) dX11_seasons_57 rfl rfl ?_
    by_cases hc : v1 ≤ v6
    · rw [if_pos hc] at h
      refine ev_icmp_ge_t (q := 119) dX11_seasons_58 (by decide) hc ?_
      cases h
      exact ev_weak _ (mLe_some (mLe_none (mLe_none (mLe_some (mLe_some (mLe_some (mLe_none (mLe_none (mLe_none (mLe_none mLe_nil)))))))))) (hexit _ hP)
    · rw [if_neg hc] at h
      refine ev_icmp_ge_f (q := 61) (t0 := 119) dX11_seasons_58 (by decide) rfl hc ?_
      refine ev_aload_n (q := 62) dX11_seasons_61 rfl rfl ?_
      refine ev_iconst (q := 63) (v := (3 : Int32)) dX11_seasons_62 rfl (by decide) ?_
      replace h := Option.bind_eq_some_iff.mp h; obtain ⟨q2, hq2, h⟩ := h
      obtain ⟨hxq2, fsq2, hkq2⟩ := kO_spec hq2
      cases hxq2
      replace h := Option.bind_eq_some_iff.mp h; obtain ⟨r1, hr1, h⟩ := h
      refine ev_invV (M1 := M_X11_draw) (as := [vi ((3 : Int32))]) (fs := fsq2) (ci := 11) dX11_seasons_63 rfl tw_1181 cal_X11_draw tw_1183 tw_55 (by decide) rfl rfl (Nat.le_of_ble_eq_true rfl) hkq2 rfl (met_X11_draw o (3 : Int32) w _ hr1) ?_
      refine ev_iconst (q := 67) (v := (1 : Int32)) dX11_seasons_66 rfl (by decide) ?_
      refine ev_isub (q := 68) dX11_seasons_67 rfl ?_
      refine ev_istore (q := 70) dX11_seasons_68 rfl (by decide) ?_
      refine ev_aload_n (q := 71) dX11_seasons_70 rfl rfl ?_
      refine ev_aload_n (q := 72) dX11_seasons_71 rfl rfl ?_
      replace h := Option.bind_eq_some_iff.mp h; obtain ⟨r3, hr3, h⟩ := h
      refine ev_gI dX11_seasons_72 fl_X11_119 hr3 rfl ?_
      replace h := Option.bind_eq_some_iff.mp h; obtain ⟨q5, hq5, h⟩ := h
      obtain ⟨hxq5, fsq5, hkq5⟩ := kO_spec hq5
      cases hxq5
      replace h := Option.bind_eq_some_iff.mp h; obtain ⟨r4, hr4, h⟩ := h
      refine ev_invV (M1 := M_X11_draw) (as := [vi r3]) (fs := fsq5) (ci := 11) dX11_seasons_75 rfl tw_1181 cal_X11_draw tw_1183 tw_55 (by decide) rfl rfl (Nat.le_of_ble_eq_true rfl) hkq5 rfl (met_X11_draw o r3 r1.2 _ hr4) ?_
      refine ev_istore (q := 80) dX11_seasons_78 rfl (by decide) ?_
      refine ev_aload_n (q := 81) dX11_seasons_80 rfl rfl ?_
      refine ev_iload (q := 83) dX11_seasons_81 rfl rfl ?_
      refine ev_aload_n (q := 84) dX11_seasons_83 rfl rfl ?_
      refine ev_bipush (q := 86) (v := (36 : Int32)) dX11_seasons_84 rfl (by decide) ?_
      replace h := Option.bind_eq_some_iff.mp h; obtain ⟨q7, hq7, h⟩ := h
      obtain ⟨hxq7, fsq7, hkq7⟩ := kO_spec hq7
      cases hxq7
      replace h := Option.bind_eq_some_iff.mp h; obtain ⟨r6, hr6, h⟩ := h
      refine ev_invV (M1 := M_X11_draw) (as := [vi ((36 : Int32))]) (fs := fsq7) (ci := 11) dX11_seasons_86 rfl tw_1181 cal_X11_draw tw_1183 tw_55 (by decide) rfl rfl (Nat.le_of_ble_eq_true rfl) hkq7 rfl (met_X11_draw o (36 : Int32) r4.2 _ hr6) ?_
      refine ev_iload (q := 91) dX11_seasons_89 rfl rfl ?_
      replace h := Option.bind_eq_some_iff.mp h; obtain ⟨q9, hq9, h⟩ := h
      obtain ⟨hxq9, fsq9, hkq9⟩ := kO_spec hq9
      cases hxq9
      replace h := Option.bind_eq_some_iff.mp h; obtain ⟨r8, hr8, h⟩ := h
      refine ev_invV (M1 := M_X11_coversOf) (as := [vi r4.1, vi r6.1, vi (r1.1 - (1 : Int32))]) (fs := fsq9) (ci := 11) dX11_seasons_91 rfl tw_1019 cal_X11_coversOf tw_1021 tw_36 (by decide) rfl rfl (Nat.le_of_ble_eq_true rfl) hkq9 rfl (met_X11_coversOf o r4.1 r6.1 (r1.1 - (1 : Int32)) r6.2 _ hr8) ?_
      refine ev_istore (q := 96) dX11_seasons_94 rfl (by decide) ?_
      refine ev_iload (q := 98) dX11_seasons_96 rfl rfl ?_
      refine ev_iload (q := 100) dX11_seasons_98 rfl rfl ?_
      replace h := Option.bind_eq_some_iff.mp h; obtain ⟨r10, hr10, h⟩ := h
      refine ev_invS (M1 := M_X11_ones) (as := [vi r8]) dX11_seasons_100 rfl tw_1076 cal_X11_ones tw_1077 (by decide) rfl rfl (Nat.le_of_ble_eq_true rfl) (met_X11_ones r8 r6.2 _ hr10) ?_
      refine ev_iadd (q := 104) dX11_seasons_103 rfl ?_
      refine ev_istore (q := 106) dX11_seasons_104 rfl (by decide) ?_
      refine ev_iload (q := 108) dX11_seasons_106 rfl rfl ?_
      refine ev_iload (q := 110) dX11_seasons_108 rfl rfl ?_
      refine ev_ior (q := 111) dX11_seasons_110 rfl ?_
      refine ev_istore (q := 113) dX11_seasons_111 rfl (by decide) ?_
      refine ev_iinc (q := 116) (v := v6 + (1 : Int32)) dX11_seasons_113 rfl (by decide) rfl (by rfl) ?_
      refine ev_goto (q := 55) dX11_seasons_116 (by decide) ?_
      exact ev_weak _ (mLe_some (mLe_some (mLe_none (mLe_some (mLe_some (mLe_some (mLe_some (mLe_none (mLe_none (mLe_none mLe_nil)))))))))) (hk (v4 + r10) (v5 ||| r8) (v6 + (1 : Int32)) r6.2 _ h hP)
def f_X11_seasons_J28 (w : mW) : Option (Int32 × mW) := some (((-102 : Int32), w))
set_option maxRecDepth 100000 in
set_option maxHeartbeats 4000000 in
theorem e_X11_seasons_J28 {X : mXs} (w : mW) (res : Int32 × mW) (h : f_X11_seasons_J28 w = some res) : mEv X M_X11_seasons 5 (some (vi res.1)) res.2 28 [none, none, none, none, none, none, none, none, none, none] [] w := by
  unfold f_X11_seasons_J28 at h
  refine ev_bipush (q := 30) (v := (-102 : Int32)) dX11_seasons_28 rfl (by decide) ?_
  cases h
  exact ev_iret dX11_seasons_30 rfl rfl
def f_X11_seasons (o : Nat) (v1 : Int32) (v2 : Int32) (v3 : Int32) (w : mW) : Option (Int32 × mW) := Option.bind (f_X11_in v1.toInt64 (1 : Int64) (60 : Int64) w) fun r11 => if r11 = 0 then (f_X11_seasons_J28 w) else (if v2 < 0 then (f_X11_seasons_J28 w) else (Option.bind (f_X11_in v3.toInt64 (0 : Int64) (2 : Int64) w) fun r12 => if r12 = 0 then (f_X11_seasons_J28 w) else (Option.bind (kO w (some o) 11) fun _ => Option.bind (f_X11_lacks o  w) fun r13 => if r13 = 0 then (Option.bind (pI w (some o) 11 24 v2) fun w15 => Option.bind (f_X11_seasons_L55 o v1 v3 mFuel (0 : Int32) (0 : Int32) (0 : Int32) w15) fun e16 => if v3 = 0 then (f_X11_seasons_J145 e16.1 e16.2.2) else (if v3 = (1 : Int32) then (Option.bind (f_X11_ones e16.2.1 e16.2.2) fun r18 => f_X11_seasons_J145 r18 e16.2.2) else (Option.bind (gI e16.2.2 (some o) 11 24) fun r17 => f_X11_seasons_J145 r17 e16.2.2))) else (some (((-103 : Int32), w))))))
set_option maxRecDepth 100000 in
set_option maxHeartbeats 4000000 in
theorem met_X11_seasons (o : Nat) (v1 : Int32) (v2 : Int32) (v3 : Int32) (w : mW) (res : Int32 × mW) (h : f_X11_seasons o v1 v2 v3 w = some res) : mMet M_X11_seasons 5 [vr ((some o)), vi v1, vi v2, vi v3] w (some (vi res.1)) res.2 := by
  refine ev_met (n := 6) (by decide) rfl fun X => ?_
  unfold f_X11_seasons at h
  show mEv X M_X11_seasons 5 _ _ 0 [some (vr ((some o))), some (vi v1), some (vi v2), some (vi v3), none, none, none, none, none, none] [] w
  refine ev_iload_n (q := 1) dX11_seasons_0 rfl rfl ?_
  refine ev_i2l (q := 2) dX11_seasons_1 rfl ?_
  refine ev_lconst (q := 3) (v := (1 : Int64)) dX11_seasons_2 rfl (by decide) ?_
  refine ev_ldc2 (q := 6) (v := (60 : Int64)) dX11_seasons_3 rfl tw_1124 ?_
  replace h := Option.bind_eq_some_iff.mp h; obtain ⟨r11, hr11, h⟩ := h
  refine ev_invS (M1 := M_X11_in) (as := [vl v1.toInt64, vl ((1 : Int64)), vl ((60 : Int64))]) dX11_seasons_6 rfl tw_954 cal_X11_in tw_955 (by decide) rfl rfl (Nat.le_of_ble_eq_true rfl) (met_X11_in v1.toInt64 (1 : Int64) (60 : Int64) w _ hr11) ?_
  by_cases hc : r11 = 0
  · rw [if_pos hc] at h
    refine ev_if_eq_t (q := 28) dX11_seasons_9 (by decide) hc ?_
    exact ev_weak _ (mLe_none (mLe_none (mLe_none (mLe_none (mLe_none (mLe_none (mLe_none (mLe_none (mLe_none (mLe_none mLe_nil)))))))))) (e_X11_seasons_J28 w _ h)
  · rw [if_neg hc] at h
    refine ev_if_eq_f (q := 12) (t0 := 28) dX11_seasons_9 (by decide) rfl hc ?_
    refine ev_iload_n (q := 13) dX11_seasons_12 rfl rfl ?_
    by_cases hc : v2 < 0
    · rw [if_pos hc] at h
      refine ev_if_lt_t (q := 28) dX11_seasons_13 (by decide) hc ?_
      exact ev_weak _ (mLe_none (mLe_none (mLe_none (mLe_none (mLe_none (mLe_none (mLe_none (mLe_none (mLe_none (mLe_none mLe_nil)))))))))) (e_X11_seasons_J28 w _ h)
    · rw [if_neg hc] at h
      refine ev_if_lt_f (q := 16) (t0 := 28) dX11_seasons_13 (by decide) rfl hc ?_
      refine ev_iload_n (q := 17) dX11_seasons_16 rfl rfl ?_
      refine ev_i2l (q := 18) dX11_seasons_17 rfl ?_
      refine ev_lconst (q := 19) (v := (0 : Int64)) dX11_seasons_18 rfl (by decide) ?_
      refine ev_ldc2 (q := 22) (v := (2 : Int64)) dX11_seasons_19 rfl tw_1180 ?_
      replace h := Option.bind_eq_some_iff.mp h; obtain ⟨r12, hr12, h⟩ := h
      refine ev_invS (M1 := M_X11_in) (as := [vl v3.toInt64, vl ((0 : Int64)), vl ((2 : Int64))]) dX11_seasons_22 rfl tw_954 cal_X11_in tw_955 (by decide) rfl rfl (Nat.le_of_ble_eq_true rfl) (met_X11_in v3.toInt64 (0 : Int64) (2 : Int64) w _ hr12) ?_
      by_cases hc : r12 = 0
      · rw [if_pos hc] at h
        refine ev_if_ne_f (q := 28) (t0 := 31) dX11_seasons_25 (by decide) rfl hc ?_
        exact ev_weak _ (mLe_none (mLe_none (mLe_none (mLe_none (mLe_none (mLe_none (mLe_none (mLe_none (mLe_none (mLe_none mLe_nil)))))))))) (e_X11_seasons_J28 w _ h)
      · rw [if_neg hc] at h
        refine ev_if_ne_t (q := 31) dX11_seasons_25 (by decide) hc ?_
        refine ev_aload_n (q := 32) dX11_seasons_31 rfl rfl ?_
        replace h := Option.bind_eq_some_iff.mp h; obtain ⟨q14, hq14, h⟩ := h
        obtain ⟨hxq14, fsq14, hkq14⟩ := kO_spec hq14
        cases hxq14
        replace h := Option.bind_eq_some_iff.mp h; obtain ⟨r13, hr13, h⟩ := h
        refine ev_invV (M1 := M_X11_lacks) (as := []) (fs := fsq14) (ci := 11) dX11_seasons_32 rfl tw_1104 cal_X11_lacks tw_1106 tw_48 (by decide) rfl rfl (Nat.le_of_ble_eq_true rfl) hkq14 rfl (met_X11_lacks o  w _ hr13) ?_
        by_cases hc : r13 = 0
        · rw [if_pos hc] at h
          refine ev_if_eq_t (q := 41) dX11_seasons_35 (by decide) hc ?_
          refine ev_aload_n (q := 42) dX11_seasons_41 rfl rfl ?_
          refine ev_iload_n (q := 43) dX11_seasons_42 rfl rfl ?_
          replace h := Option.bind_eq_some_iff.mp h; obtain ⟨w15, hw15, h⟩ := h
          refine ev_pI dX11_seasons_43 fp_X11_251 hw15 rfl ?_
          refine ev_iconst (q := 47) (v := (0 : Int32)) dX11_seasons_46 rfl (by decide) ?_
          refine ev_istore (q := 49) dX11_seasons_47 rfl (by decide) ?_
          refine ev_iconst (q := 50) (v := (0 : Int32)) dX11_seasons_49 rfl (by decide) ?_
          refine ev_istore (q := 52) dX11_seasons_50 rfl (by decide) ?_
          refine ev_iconst (q := 53) (v := (0 : Int32)) dX11_seasons_52 rfl (by decide) ?_
          refine ev_istore (q := 55) dX11_seasons_53 rfl (by decide) ?_
          replace h := Option.bind_eq_some_iff.mp h; obtain ⟨e16, he16, h⟩ := h
          refine ev_weak _ (mLe_some (mLe_some (mLe_none (mLe_some (mLe_some (mLe_some (mLe_some (mLe_none (mLe_none (mLe_none mLe_nil)))))))))) (e_X11_seasons_L55 (fun z => e16 = z) o v1 v3 (fun e16q hq => ?_) mFuel (0 : Int32) (0 : Int32) (0 : Int32) w15 _ he16 rfl)
          subst hq
          refine ev_iload_n (q := 120) dX11_seasons_119 rfl rfl ?_
          by_cases hc : v3 = 0
          · rw [if_pos hc] at h
            refine ev_if_ne_f (q := 123) (t0 := 128) dX11_seasons_120 (by decide) rfl hc ?_
            refine ev_iload (q := 125) dX11_seasons_123 rfl rfl ?_
            refine ev_goto (q := 145) dX11_seasons_125 (by decide) ?_
            exact ev_weak _ (mLe_none (mLe_none (mLe_none (mLe_none (mLe_none (mLe_none (mLe_none (mLe_none (mLe_none (mLe_none mLe_nil)))))))))) (e_X11_seasons_J145 e16.1 e16.2.2 _ h)
          · rw [if_neg hc] at h
            refine ev_if_ne_t (q := 128) dX11_seasons_120 (by decide) hc ?_
            refine ev_iload_n (q := 129) dX11_seasons_128 rfl rfl ?_
            refine ev_iconst (q := 130) (v := (1 : Int32)) dX11_seasons_129 rfl (by decide) ?_
            by_cases hc : v3 = (1 : Int32)
            · rw [if_pos hc] at h
              refine ev_icmp_ne_f (q := 133) (t0 := 141) dX11_seasons_130 (by decide) rfl hc ?_
              refine ev_iload (q := 135) dX11_seasons_133 rfl rfl ?_
              replace h := Option.bind_eq_some_iff.mp h; obtain ⟨r18, hr18, h⟩ := h
              refine ev_invS (M1 := M_X11_ones) (as := [vi e16.2.1]) dX11_seasons_135 rfl tw_1076 cal_X11_ones tw_1077 (by decide) rfl rfl (Nat.le_of_ble_eq_true rfl) (met_X11_ones e16.2.1 e16.2.2 _ hr18) ?_
              refine ev_goto (q := 145) dX11_seasons_138 (by decide) ?_
              exact ev_weak _ (mLe_none (mLe_none (mLe_none (mLe_none (mLe_none (mLe_none (mLe_none (mLe_none (mLe_none (mLe_none mLe_nil)))))))))) (e_X11_seasons_J145 r18 e16.2.2 _ h)
            · rw [if_neg hc] at h
              refine ev_icmp_ne_t (q := 141) dX11_seasons_130 (by decide) hc ?_
              refine ev_aload_n (q := 142) dX11_seasons_141 rfl rfl ?_
              replace h := Option.bind_eq_some_iff.mp h; obtain ⟨r17, hr17, h⟩ := h
              refine ev_gI dX11_seasons_142 fl_X11_251 hr17 rfl ?_
              exact ev_weak _ (mLe_none (mLe_none (mLe_none (mLe_none (mLe_none (mLe_none (mLe_none (mLe_none (mLe_none (mLe_none mLe_nil)))))))))) (e_X11_seasons_J145 r17 e16.2.2 _ h)
        · rw [if_neg hc] at h
          refine ev_if_eq_f (q := 38) (t0 := 41) dX11_seasons_35 (by decide) rfl hc ?_
          refine ev_bipush (q := 40) (v := (-103 : Int32)) dX11_seasons_38 rfl (by decide) ?_
          cases h
          exact ev_iret dX11_seasons_40 rfl rfl
def f_X11_toss_L69 (o : Nat) (v1 : Int32) (v3 : Int32) : Nat → Int32 → mW → Option (mW)
  | 0, _, _ => none
  | n + 1, v4, w => Option.bind (gI w (some o) 11 3) fun r1 => if r1 ≤ v4 then (some (w)) else (Option.bind (gR w (some o) 11 11) fun r2 => Option.bind (aL w r2 v4) fun r3 => Option.bind (aS w r2 v4 (r3 ||| ((v3 >>> (v4 &&& 31)) &&& (1 : Int32)))) fun w4 => (f_X11_toss_L69 o v1 v3 n) (v4 + (1 : Int32)) w4)
set_option maxRecDepth 100000 in
set_option maxHeartbeats 4000000 in
theorem e_X11_toss_L69 {X : mXs} {r : Option mV} {w' : mW} (P : (mW) → Prop) (o : Nat) (v1 : Int32) (v3 : Int32) (hexit : ∀ y, P y → mEv X M_X11_toss 5 r w' 100 [some (vr ((some o))), some (vi v1), none, some (vi v3), none] [] y) : ∀ (n : Nat) (v4 : Int32) (w : mW) (e : mW), f_X11_toss_L69 o v1 v3 n v4 w = some e → P e → mEv X M_X11_toss 5 r w' 69 [some (vr ((some o))), some (vi v1), none, some (vi v3), some (vi v4)] [] w := by
  intro n
  induction n with
  | zero =>
    intro v4 w e h hP
    rw [f_X11_toss_L69] at h
    cases h
  | succ n hk =>
    intro v4 w e h hP
    rw [f_X11_toss_L69] at h
    refine ev_iload (q := 71) dX11_toss_69 rfl rfl ?_
    refine ev_aload_n (q := 72) dX11_toss_71 rfl rfl ?_
    replace h := Option.bind_eq_some_iff.mp h; obtain ⟨r1, hr1, h⟩ := h
    refine ev_gI dX11_toss_72 fl_X11_116 hr1 rfl ?_
    by_cases hc : r1 ≤ v4
    · rw [if_pos hc] at h
      refine ev_icmp_ge_t (q := 100) dX11_toss_75 (by decide) hc ?_
      cases h
      exact ev_weak _ (mLe_some (mLe_some (mLe_none (mLe_some (mLe_none mLe_nil))))) (hexit _ hP)
    · rw [if_neg hc] at h
      refine ev_icmp_ge_f (q := 78) (t0 := 100) dX11_toss_75 (by decide) rfl hc ?_
      refine ev_aload_n (q := 79) dX11_toss_78 rfl rfl ?_
      replace h := Option.bind_eq_some_iff.mp h; obtain ⟨r2, hr2, h⟩ := h
      refine ev_gR dX11_toss_79 fl_X11_16 hr2 rfl ?_
      refine ev_iload (q := 84) dX11_toss_82 rfl rfl ?_
      refine ev_dup2 (q := 85) dX11_toss_84 rfl rfl rfl ?_
      replace h := Option.bind_eq_some_iff.mp h; obtain ⟨r3, hr3, h⟩ := h
      refine ev_aL dX11_toss_85 hr3 rfl ?_
      refine ev_iload_n (q := 87) dX11_toss_86 rfl rfl ?_
      refine ev_iload (q := 89) dX11_toss_87 rfl rfl ?_
      refine ev_ishr (q := 90) dX11_toss_89 rfl ?_
      refine ev_iconst (q := 91) (v := (1 : Int32)) dX11_toss_90 rfl (by decide) ?_
      refine ev_iand (q := 92) dX11_toss_91 rfl ?_
      refine ev_ior (q := 93) dX11_toss_92 rfl ?_
      replace h := Option.bind_eq_some_iff.mp h; obtain ⟨w4, hw4, h⟩ := h
      refine ev_aS dX11_toss_93 hw4 rfl ?_
      refine ev_iinc (q := 97) (v := v4 + (1 : Int32)) dX11_toss_94 rfl (by decide) rfl (by rfl) ?_
      refine ev_goto (q := 69) dX11_toss_97 (by decide) ?_
      exact ev_weak _ (mLe_some (mLe_some (mLe_none (mLe_some (mLe_some mLe_nil))))) (hk (v4 + (1 : Int32)) w4 _ h hP)
def f_X11_toss_J15 (w : mW) : Option (Int32 × mW) := some (((-101 : Int32), w))
set_option maxRecDepth 100000 in
set_option maxHeartbeats 4000000 in
theorem e_X11_toss_J15 {X : mXs} (w : mW) (res : Int32 × mW) (h : f_X11_toss_J15 w = some res) : mEv X M_X11_toss 5 (some (vi res.1)) res.2 15 [none, none, none, none, none] [] w := by
  unfold f_X11_toss_J15 at h
  refine ev_bipush (q := 17) (v := (-101 : Int32)) dX11_toss_15 rfl (by decide) ?_
  cases h
  exact ev_iret dX11_toss_17 rfl rfl
def f_X11_toss (o : Nat) (v1 : Int32) (v2 : Int32) (w : mW) : Option (Int32 × mW) := Option.bind (kO w (some o) 11) fun _ => Option.bind (f_X11_isTosser o v1 w) fun r5 => if r5 = 0 then (f_X11_toss_J15 w) else (Option.bind (f_X11_isCell v2 w) fun r7 => if r7 = 0 then (f_X11_toss_J15 w) else (Option.bind (gI w (some o) 11 6) fun r8 => Option.bind (gR w (some o) 11 14) fun r9 => Option.bind (aL w r9 v1) fun r10 => Option.bind (f_X11_batterOf r10 w) fun r11 => if r11 ≤ r8 then (Option.bind (gI w (some o) 11 8) fun r12 => if r12 = (999 : Int32) then (some (((-104 : Int32), w))) else (Option.bind (gI w (some o) 11 5) fun r13 => Option.bind (kO w (some o) 11) fun _ => Option.bind (f_X11_coversOf o v1 v2 r13 w) fun r14 => Option.bind (kO w (some o) 11) fun _ => Option.bind (f_X11_open o  w) fun r16 => Option.bind (f_X11_toss_L69 o v1 (r14 &&& r16) mFuel (0 : Int32) w) fun e18 => Option.bind (gI e18 (some o) 11 6) fun r19 => Option.bind (gR e18 (some o) 11 14) fun r20 => Option.bind (aL e18 r20 v1) fun r21 => Option.bind (f_X11_batterOf r21 e18) fun r22 => Option.bind (pI e18 (some o) 11 6 (r19 - r22)) fun w23 => Option.bind (gI w23 (some o) 11 8) fun r24 => Option.bind (pI w23 (some o) 11 8 (r24 + (1 : Int32))) fun w25 => Option.bind (gR w25 (some o) 11 17) fun r26 => Option.bind (aL w25 r26 v1) fun r27 => Option.bind (aS w25 r26 v1 (r27 + (1 : Int32))) fun w28 => Option.bind (f_X11_ones (r14 &&& r16) w28) fun r29 => some ((r29, w28)))) else (some (((-103 : Int32), w)))))
set_option maxRecDepth 100000 in
set_option maxHeartbeats 4000000 in
theorem met_X11_toss (o : Nat) (v1 : Int32) (v2 : Int32) (w : mW) (res : Int32 × mW) (h : f_X11_toss o v1 v2 w = some res) : mMet M_X11_toss 5 [vr ((some o)), vi v1, vi v2] w (some (vi res.1)) res.2 := by
  refine ev_met (n := 2) (by decide) rfl fun X => ?_
  unfold f_X11_toss at h
  show mEv X M_X11_toss 5 _ _ 0 [some (vr ((some o))), some (vi v1), some (vi v2), none, none] [] w
  refine ev_aload_n (q := 1) dX11_toss_0 rfl rfl ?_
  refine ev_iload_n (q := 2) dX11_toss_1 rfl rfl ?_
  replace h := Option.bind_eq_some_iff.mp h; obtain ⟨q6, hq6, h⟩ := h
  obtain ⟨hxq6, fsq6, hkq6⟩ := kO_spec hq6
  cases hxq6
  replace h := Option.bind_eq_some_iff.mp h; obtain ⟨r5, hr5, h⟩ := h
  refine ev_invV (M1 := M_X11_isTosser) (as := [vi v1]) (fs := fsq6) (ci := 11) dX11_toss_2 rfl tw_999 cal_X11_isTosser tw_1001 tw_34 (by decide) rfl rfl (Nat.le_of_ble_eq_true rfl) hkq6 rfl (met_X11_isTosser o v1 w _ hr5) ?_
  by_cases hc : r5 = 0
  · rw [if_pos hc] at h
    refine ev_if_eq_t (q := 15) dX11_toss_5 (by decide) hc ?_
    exact ev_weak _ (mLe_none (mLe_none (mLe_none (mLe_none (mLe_none mLe_nil))))) (e_X11_toss_J15 w _ h)
  · rw [if_neg hc] at h
    refine ev_if_eq_f (q := 8) (t0 := 15) dX11_toss_5 (by decide) rfl hc ?_
    refine ev_iload_n (q := 9) dX11_toss_8 rfl rfl ?_
    replace h := Option.bind_eq_some_iff.mp h; obtain ⟨r7, hr7, h⟩ := h
    refine ev_invS (M1 := M_X11_isCell) (as := [vi v2]) dX11_toss_9 rfl tw_1003 cal_X11_isCell tw_1004 (by decide) rfl rfl (Nat.le_of_ble_eq_true rfl) (met_X11_isCell v2 w _ hr7) ?_
    by_cases hc : r7 = 0
    · rw [if_pos hc] at h
      refine ev_if_ne_f (q := 15) (t0 := 18) dX11_toss_12 (by decide) rfl hc ?_
      exact ev_weak _ (mLe_none (mLe_none (mLe_none (mLe_none (mLe_none mLe_nil))))) (e_X11_toss_J15 w _ h)
    · rw [if_neg hc] at h
      refine ev_if_ne_t (q := 18) dX11_toss_12 (by decide) hc ?_
      refine ev_aload_n (q := 19) dX11_toss_18 rfl rfl ?_
      replace h := Option.bind_eq_some_iff.mp h; obtain ⟨r8, hr8, h⟩ := h
      refine ev_gI dX11_toss_19 fl_X11_125 hr8 rfl ?_
      refine ev_aload_n (q := 23) dX11_toss_22 rfl rfl ?_
      replace h := Option.bind_eq_some_iff.mp h; obtain ⟨r9, hr9, h⟩ := h
      refine ev_gR dX11_toss_23 fl_X11_25 hr9 rfl ?_
      refine ev_iload_n (q := 27) dX11_toss_26 rfl rfl ?_
      replace h := Option.bind_eq_some_iff.mp h; obtain ⟨r10, hr10, h⟩ := h
      refine ev_aL dX11_toss_27 hr10 rfl ?_
      replace h := Option.bind_eq_some_iff.mp h; obtain ⟨r11, hr11, h⟩ := h
      refine ev_invS (M1 := M_X11_batterOf) (as := [vi r10]) dX11_toss_28 rfl tw_1065 cal_X11_batterOf tw_1066 (by decide) rfl rfl (Nat.le_of_ble_eq_true rfl) (met_X11_batterOf r10 w _ hr11) ?_
      by_cases hc : r11 ≤ r8
      · rw [if_pos hc] at h
        refine ev_icmp_ge_t (q := 37) dX11_toss_31 (by decide) hc ?_
        refine ev_aload_n (q := 38) dX11_toss_37 rfl rfl ?_
        replace h := Option.bind_eq_some_iff.mp h; obtain ⟨r12, hr12, h⟩ := h
        refine ev_gI dX11_toss_38 fl_X11_131 hr12 rfl ?_
        refine ev_sipush (q := 44) (v := (999 : Int32)) dX11_toss_41 rfl (by decide) ?_
        by_cases hc : r12 = (999 : Int32)
        · rw [if_pos hc] at h
          refine ev_icmp_ne_f (q := 47) (t0 := 50) dX11_toss_44 (by decide) rfl hc ?_
          refine ev_bipush (q := 49) (v := (-104 : Int32)) dX11_toss_47 rfl (by decide) ?_
          cases h
          exact ev_iret dX11_toss_49 rfl rfl
        · rw [if_neg hc] at h
          refine ev_icmp_ne_t (q := 50) dX11_toss_44 (by decide) hc ?_
          refine ev_aload_n (q := 51) dX11_toss_50 rfl rfl ?_
          refine ev_iload_n (q := 52) dX11_toss_51 rfl rfl ?_
          refine ev_iload_n (q := 53) dX11_toss_52 rfl rfl ?_
          refine ev_aload_n (q := 54) dX11_toss_53 rfl rfl ?_
          replace h := Option.bind_eq_some_iff.mp h; obtain ⟨r13, hr13, h⟩ := h
          refine ev_gI dX11_toss_54 fl_X11_122 hr13 rfl ?_
          replace h := Option.bind_eq_some_iff.mp h; obtain ⟨q15, hq15, h⟩ := h
          obtain ⟨hxq15, fsq15, hkq15⟩ := kO_spec hq15
          cases hxq15
          replace h := Option.bind_eq_some_iff.mp h; obtain ⟨r14, hr14, h⟩ := h
          refine ev_invV (M1 := M_X11_coversOf) (as := [vi v1, vi v2, vi r13]) (fs := fsq15) (ci := 11) dX11_toss_57 rfl tw_1019 cal_X11_coversOf tw_1021 tw_36 (by decide) rfl rfl (Nat.le_of_ble_eq_true rfl) hkq15 rfl (met_X11_coversOf o v1 v2 r13 w _ hr14) ?_
          refine ev_aload_n (q := 61) dX11_toss_60 rfl rfl ?_
          replace h := Option.bind_eq_some_iff.mp h; obtain ⟨q17, hq17, h⟩ := h
          obtain ⟨hxq17, fsq17, hkq17⟩ := kO_spec hq17
          cases hxq17
          replace h := Option.bind_eq_some_iff.mp h; obtain ⟨r16, hr16, h⟩ := h
          refine ev_invV (M1 := M_X11_open) (as := []) (fs := fsq17) (ci := 11) dX11_toss_61 rfl tw_1072 cal_X11_open tw_1074 tw_45 (by decide) rfl rfl (Nat.le_of_ble_eq_true rfl) hkq17 rfl (met_X11_open o  w _ hr16) ?_
          refine ev_iand (q := 65) dX11_toss_64 rfl ?_
          refine ev_istore_n (q := 66) dX11_toss_65 rfl (by decide) ?_
          refine ev_iconst (q := 67) (v := (0 : Int32)) dX11_toss_66 rfl (by decide) ?_
          refine ev_istore (q := 69) dX11_toss_67 rfl (by decide) ?_
          replace h := Option.bind_eq_some_iff.mp h; obtain ⟨e18, he18, h⟩ := h
          refine ev_weak _ (mLe_some (mLe_some (mLe_none (mLe_some (mLe_some mLe_nil))))) (e_X11_toss_L69 (fun z => e18 = z) o v1 (r14 &&& r16) (fun e18q hq => ?_) mFuel (0 : Int32) w _ he18 rfl)
          subst hq
          refine ev_aload_n (q := 101) dX11_toss_100 rfl rfl ?_
          refine ev_dup (q := 102) dX11_toss_101 rfl rfl ?_
          replace h := Option.bind_eq_some_iff.mp h; obtain ⟨r19, hr19, h⟩ := h
          refine ev_gI dX11_toss_102 fl_X11_125 hr19 rfl ?_
          refine ev_aload_n (q := 106) dX11_toss_105 rfl rfl ?_
          replace h := Option.bind_eq_some_iff.mp h; obtain ⟨r20, hr20, h⟩ := h
          refine ev_gR dX11_toss_106 fl_X11_25 hr20 rfl ?_
          refine ev_iload_n (q := 110) dX11_toss_109 rfl rfl ?_
          replace h := Option.bind_eq_some_iff.mp h; obtain ⟨r21, hr21, h⟩ := h
          refine ev_aL dX11_toss_110 hr21 rfl ?_
          replace h := Option.bind_eq_some_iff.mp h; obtain ⟨r22, hr22, h⟩ := h
          refine ev_invS (M1 := M_X11_batterOf) (as := [vi r21]) dX11_toss_111 rfl tw_1065 cal_X11_batterOf tw_1066 (by decide) rfl rfl (Nat.le_of_ble_eq_true rfl) (met_X11_batterOf r21 e18 _ hr22) ?_
          refine ev_isub (q := 115) dX11_toss_114 rfl ?_
          replace h := Option.bind_eq_some_iff.mp h; obtain ⟨w23, hw23, h⟩ := h
          refine ev_pI dX11_toss_115 fp_X11_125 hw23 rfl ?_
          refine ev_aload_n (q := 119) dX11_toss_118 rfl rfl ?_
          refine ev_dup (q := 120) dX11_toss_119 rfl rfl ?_
          replace h := Option.bind_eq_some_iff.mp h; obtain ⟨r24, hr24, h⟩ := h
          refine ev_gI dX11_toss_120 fl_X11_131 hr24 rfl ?_
          refine ev_iconst (q := 124) (v := (1 : Int32)) dX11_toss_123 rfl (by decide) ?_
          refine ev_iadd (q := 125) dX11_toss_124 rfl ?_
          replace h := Option.bind_eq_some_iff.mp h; obtain ⟨w25, hw25, h⟩ := h
          refine ev_pI dX11_toss_125 fp_X11_131 hw25 rfl ?_
          refine ev_aload_n (q := 129) dX11_toss_128 rfl rfl ?_
          replace h := Option.bind_eq_some_iff.mp h; obtain ⟨r26, hr26, h⟩ := h
          refine ev_gR dX11_toss_129 fl_X11_34 hr26 rfl ?_
          refine ev_iload_n (q := 133) dX11_toss_132 rfl rfl ?_
          refine ev_dup2 (q := 134) dX11_toss_133 rfl rfl rfl ?_
          replace h := Option.bind_eq_some_iff.mp h; obtain ⟨r27, hr27, h⟩ := h
          refine ev_aL dX11_toss_134 hr27 rfl ?_
          refine ev_iconst (q := 136) (v := (1 : Int32)) dX11_toss_135 rfl (by decide) ?_
          refine ev_iadd (q := 137) dX11_toss_136 rfl ?_
          replace h := Option.bind_eq_some_iff.mp h; obtain ⟨w28, hw28, h⟩ := h
          refine ev_aS dX11_toss_137 hw28 rfl ?_
          refine ev_iload_n (q := 139) dX11_toss_138 rfl rfl ?_
          replace h := Option.bind_eq_some_iff.mp h; obtain ⟨r29, hr29, h⟩ := h
          refine ev_invS (M1 := M_X11_ones) (as := [vi (r14 &&& r16)]) dX11_toss_139 rfl tw_1076 cal_X11_ones tw_1077 (by decide) rfl rfl (Nat.le_of_ble_eq_true rfl) (met_X11_ones (r14 &&& r16) w28 _ hr29) ?_
          cases h
          exact ev_iret dX11_toss_142 rfl rfl
      · rw [if_neg hc] at h
        refine ev_icmp_ge_f (q := 34) (t0 := 37) dX11_toss_31 (by decide) rfl hc ?_
        refine ev_bipush (q := 36) (v := (-103 : Int32)) dX11_toss_34 rfl (by decide) ?_
        cases h
        exact ev_iret dX11_toss_36 rfl rfl
def f_X10_digestOfPlans_L56 (o : Nat) (w : mW) : Nat → Int64 → Int32 → Option (Int64)
  | 0, _, _ => none
  | n + 1, v3, v5 => if (15 : Int32) < v5 then (some (v3)) else (Option.bind (gR w (some o) 10 5) fun r1 => Option.bind (kO w r1 4) fun q3 => Option.bind (f_X4_tell q3 v5 w) fun r2 => (f_X10_digestOfPlans_L56 o w n) (((31 : Int64) * v3) + r2.toInt64) (v5 + (1 : Int32)))
set_option maxRecDepth 100000 in
set_option maxHeartbeats 4000000 in
theorem e_X10_digestOfPlans_L56 {X : mXs} {r : Option mV} {w' : mW} (P : (Int64) → Prop) (o : Nat) (w : mW) (hexit : ∀ y, P y → mEv X M_X10_digestOfPlans 6 r w' 86 [some (vr ((some o))), none, none, some (vl y), none, none] [] w) : ∀ (n : Nat) (v3 : Int64) (v5 : Int32) (e : Int64), f_X10_digestOfPlans_L56 o w n v3 v5 = some e → P e → mEv X M_X10_digestOfPlans 6 r w' 56 [some (vr ((some o))), none, none, some (vl v3), none, some (vi v5)] [] w := by
  intro n
  induction n with
  | zero =>
    intro v3 v5 e h hP
    rw [f_X10_digestOfPlans_L56] at h
    cases h
  | succ n hk =>
    intro v3 v5 e h hP
    rw [f_X10_digestOfPlans_L56] at h
    refine ev_iload (q := 58) dX10_digestOfPlans_56 rfl rfl ?_
    refine ev_bipush (q := 60) (v := (15 : Int32)) dX10_digestOfPlans_58 rfl (by decide) ?_
    by_cases hc : (15 : Int32) < v5
    · rw [if_pos hc] at h
      refine ev_icmp_gt_t (q := 86) dX10_digestOfPlans_60 (by decide) hc ?_
      cases h
      exact ev_weak _ (mLe_some (mLe_none (mLe_none (mLe_some (mLe_none (mLe_none mLe_nil)))))) (hexit _ hP)
    · rw [if_neg hc] at h
      refine ev_icmp_gt_f (q := 63) (t0 := 86) dX10_digestOfPlans_60 (by decide) rfl hc ?_
      refine ev_ldc2 (q := 66) (v := (31 : Int64)) dX10_digestOfPlans_63 rfl tw_810 ?_
      refine ev_lload_n (q := 67) dX10_digestOfPlans_66 rfl rfl ?_
      refine ev_lmul (q := 68) dX10_digestOfPlans_67 rfl ?_
      refine ev_aload_n (q := 69) dX10_digestOfPlans_68 rfl rfl ?_
      replace h := Option.bind_eq_some_iff.mp h; obtain ⟨r1, hr1, h⟩ := h
      refine ev_gR dX10_digestOfPlans_69 fl_X10_42 hr1 rfl ?_
      refine ev_iload (q := 74) dX10_digestOfPlans_72 rfl rfl ?_
      replace h := Option.bind_eq_some_iff.mp h; obtain ⟨q3, hq3, h⟩ := h
      obtain ⟨hxq3, fsq3, hkq3⟩ := kO_spec hq3
      subst hxq3
      replace h := Option.bind_eq_some_iff.mp h; obtain ⟨r2, hr2, h⟩ := h
      refine ev_invV (M1 := M_X4_tell) (as := [vi v5]) (fs := fsq3) (ci := 4) dX10_digestOfPlans_74 rfl tw_734 cal_X4_tell tw_735 tw_736 (by decide) rfl rfl (Nat.le_of_ble_eq_true rfl) hkq3 rfl (met_X4_tell q3 v5 w _ hr2) ?_
      refine ev_i2l (q := 78) dX10_digestOfPlans_77 rfl ?_
      refine ev_ladd (q := 79) dX10_digestOfPlans_78 rfl ?_
      refine ev_lstore_n (q := 80) dX10_digestOfPlans_79 rfl (by decide) ?_
      refine ev_iinc (q := 83) (v := v5 + (1 : Int32)) dX10_digestOfPlans_80 rfl (by decide) rfl (by rfl) ?_
      refine ev_goto (q := 56) dX10_digestOfPlans_83 (by decide) ?_
      exact ev_weak _ (mLe_some (mLe_none (mLe_none (mLe_some (mLe_none (mLe_some mLe_nil)))))) (hk (((31 : Int64) * v3) + r2.toInt64) (v5 + (1 : Int32)) _ h hP)
def f_X10_digestOfPlans (o : Nat) (v1 : Int64) (w : mW) : Option (Int64 × mW) := Option.bind (kO w (some o) 10) fun _ => Option.bind (f_X10_everybody o  w) fun r4 => Option.bind (gR w (some o) 10 3) fun r6 => Option.bind (gI w r6 2 7) fun r7 => Option.bind (kO w (some o) 10) fun _ => Option.bind (f_X10_planFor o (r4 &&& (r7 ^^^ (-1 : Int32))) w) fun w8 => Option.bind (gR w8 (some o) 10 5) fun r10 => Option.bind (kO w8 r10 4) fun q12 => Option.bind (f_X4_tell q12 (0 : Int32) w8) fun r11 => Option.bind (gR w8 (some o) 10 5) fun r13 => Option.bind (kO w8 r13 4) fun q15 => Option.bind (f_X4_tell q15 (1 : Int32) w8) fun r14 => Option.bind (f_X10_digestOfPlans_L56 o w8 mFuel (((31 : Int64) * (((31 : Int64) * v1) + r11.toInt64)) + r14.toInt64) (10 : Int32)) fun e16 => Option.bind (kO w8 (some o) 10) fun _ => Option.bind (f_X10_nights o  w8) fun r17 => Option.bind (kO r17.2 (some o) 10) fun _ => Option.bind (f_X10_who o (0 : Int32) r17.2) fun r19 => Option.bind (kO r17.2 (some o) 10) fun _ => Option.bind (f_X10_who o (21 : Int32) r17.2) fun r21 => some ((((31 : Int64) * (((31 : Int64) * (((31 : Int64) * e16) + r17.1.toInt64)) + r19.toInt64)) + r21.toInt64, r17.2))
set_option maxRecDepth 100000 in
set_option maxHeartbeats 4000000 in
theorem met_X10_digestOfPlans (o : Nat) (v1 : Int64) (w : mW) (res : Int64 × mW) (h : f_X10_digestOfPlans o v1 w = some res) : mMet M_X10_digestOfPlans 6 [vr ((some o)), vl v1] w (some (vl res.1)) res.2 := by
  refine ev_met (n := 3) (by decide) rfl fun X => ?_
  unfold f_X10_digestOfPlans at h
  show mEv X M_X10_digestOfPlans 6 _ _ 0 [some (vr ((some o))), some (vl v1), none, none, none, none] [] w
  refine ev_lload_n (q := 1) dX10_digestOfPlans_0 rfl rfl ?_
  refine ev_lstore_n (q := 2) dX10_digestOfPlans_1 rfl (by decide) ?_
  refine ev_aload_n (q := 3) dX10_digestOfPlans_2 rfl rfl ?_
  refine ev_aload_n (q := 4) dX10_digestOfPlans_3 rfl rfl ?_
  replace h := Option.bind_eq_some_iff.mp h; obtain ⟨q5, hq5, h⟩ := h
  obtain ⟨hxq5, fsq5, hkq5⟩ := kO_spec hq5
  cases hxq5
  replace h := Option.bind_eq_some_iff.mp h; obtain ⟨r4, hr4, h⟩ := h
  refine ev_invV (M1 := M_X10_everybody) (as := []) (fs := fsq5) (ci := 10) dX10_digestOfPlans_4 rfl tw_697 cal_X10_everybody tw_699 tw_23 (by decide) rfl rfl (Nat.le_of_ble_eq_true rfl) hkq5 rfl (met_X10_everybody o  w _ hr4) ?_
  refine ev_aload_n (q := 8) dX10_digestOfPlans_7 rfl rfl ?_
  replace h := Option.bind_eq_some_iff.mp h; obtain ⟨r6, hr6, h⟩ := h
  refine ev_gR dX10_digestOfPlans_8 fl_X10_32 hr6 rfl ?_
  replace h := Option.bind_eq_some_iff.mp h; obtain ⟨r7, hr7, h⟩ := h
  refine ev_gI dX10_digestOfPlans_11 fl_X10_86 hr7 rfl ?_
  refine ev_iconst (q := 15) (v := (-1 : Int32)) dX10_digestOfPlans_14 rfl (by decide) ?_
  refine ev_ixor (q := 16) dX10_digestOfPlans_15 rfl ?_
  refine ev_iand (q := 17) dX10_digestOfPlans_16 rfl ?_
  replace h := Option.bind_eq_some_iff.mp h; obtain ⟨q9, hq9, h⟩ := h
  obtain ⟨hxq9, fsq9, hkq9⟩ := kO_spec hq9
  cases hxq9
  replace h := Option.bind_eq_some_iff.mp h; obtain ⟨w8, hw8, h⟩ := h
  refine ev_invV (M1 := M_X10_planFor) (as := [vi (r4 &&& (r7 ^^^ (-1 : Int32)))]) (fs := fsq9) (ci := 10) dX10_digestOfPlans_17 rfl tw_701 cal_X10_planFor tw_703 tw_24 (by decide) rfl rfl (Nat.le_of_ble_eq_true rfl) hkq9 rfl (met_X10_planFor o (r4 &&& (r7 ^^^ (-1 : Int32))) w _ hw8) ?_
  refine ev_ldc2 (q := 23) (v := (31 : Int64)) dX10_digestOfPlans_20 rfl tw_810 ?_
  refine ev_lload_n (q := 24) dX10_digestOfPlans_23 rfl rfl ?_
  refine ev_lmul (q := 25) dX10_digestOfPlans_24 rfl ?_
  refine ev_aload_n (q := 26) dX10_digestOfPlans_25 rfl rfl ?_
  replace h := Option.bind_eq_some_iff.mp h; obtain ⟨r10, hr10, h⟩ := h
  refine ev_gR dX10_digestOfPlans_26 fl_X10_42 hr10 rfl ?_
  refine ev_iconst (q := 30) (v := (0 : Int32)) dX10_digestOfPlans_29 rfl (by decide) ?_
  replace h := Option.bind_eq_some_iff.mp h; obtain ⟨q12, hq12, h⟩ := h
  obtain ⟨hxq12, fsq12, hkq12⟩ := kO_spec hq12
  subst hxq12
  replace h := Option.bind_eq_some_iff.mp h; obtain ⟨r11, hr11, h⟩ := h
  refine ev_invV (M1 := M_X4_tell) (as := [vi ((0 : Int32))]) (fs := fsq12) (ci := 4) dX10_digestOfPlans_30 rfl tw_734 cal_X4_tell tw_735 tw_736 (by decide) rfl rfl (Nat.le_of_ble_eq_true rfl) hkq12 rfl (met_X4_tell q12 (0 : Int32) w8 _ hr11) ?_
  refine ev_i2l (q := 34) dX10_digestOfPlans_33 rfl ?_
  refine ev_ladd (q := 35) dX10_digestOfPlans_34 rfl ?_
  refine ev_lstore_n (q := 36) dX10_digestOfPlans_35 rfl (by decide) ?_
  refine ev_ldc2 (q := 39) (v := (31 : Int64)) dX10_digestOfPlans_36 rfl tw_810 ?_
  refine ev_lload_n (q := 40) dX10_digestOfPlans_39 rfl rfl ?_
  refine ev_lmul (q := 41) dX10_digestOfPlans_40 rfl ?_
  refine ev_aload_n (q := 42) dX10_digestOfPlans_41 rfl rfl ?_
  replace h := Option.bind_eq_some_iff.mp h; obtain ⟨r13, hr13, h⟩ := h
  refine ev_gR dX10_digestOfPlans_42 fl_X10_42 hr13 rfl ?_
  refine ev_iconst (q := 46) (v := (1 : Int32)) dX10_digestOfPlans_45 rfl (by decide) ?_
  replace h := Option.bind_eq_some_iff.mp h; obtain ⟨q15, hq15, h⟩ := h
  obtain ⟨hxq15, fsq15, hkq15⟩ := kO_spec hq15
  subst hxq15
  replace h := Option.bind_eq_some_iff.mp h; obtain ⟨r14, hr14, h⟩ := h
  refine ev_invV (M1 := M_X4_tell) (as := [vi ((1 : Int32))]) (fs := fsq15) (ci := 4) dX10_digestOfPlans_46 rfl tw_734 cal_X4_tell tw_735 tw_736 (by decide) rfl rfl (Nat.le_of_ble_eq_true rfl) hkq15 rfl (met_X4_tell q15 (1 : Int32) w8 _ hr14) ?_
  refine ev_i2l (q := 50) dX10_digestOfPlans_49 rfl ?_
  refine ev_ladd (q := 51) dX10_digestOfPlans_50 rfl ?_
  refine ev_lstore_n (q := 52) dX10_digestOfPlans_51 rfl (by decide) ?_
  refine ev_bipush (q := 54) (v := (10 : Int32)) dX10_digestOfPlans_52 rfl (by decide) ?_
  refine ev_istore (q := 56) dX10_digestOfPlans_54 rfl (by decide) ?_
  replace h := Option.bind_eq_some_iff.mp h; obtain ⟨e16, he16, h⟩ := h
  refine ev_weak _ (mLe_some (mLe_none (mLe_none (mLe_some (mLe_none (mLe_some mLe_nil)))))) (e_X10_digestOfPlans_L56 (fun z => e16 = z) o w8 (fun e16q hq => ?_) mFuel (((31 : Int64) * (((31 : Int64) * v1) + r11.toInt64)) + r14.toInt64) (10 : Int32) _ he16 rfl)
  subst hq
  refine ev_ldc2 (q := 89) (v := (31 : Int64)) dX10_digestOfPlans_86 rfl tw_810 ?_
  refine ev_lload_n (q := 90) dX10_digestOfPlans_89 rfl rfl ?_
  refine ev_lmul (q := 91) dX10_digestOfPlans_90 rfl ?_
  refine ev_aload_n (q := 92) dX10_digestOfPlans_91 rfl rfl ?_
  replace h := Option.bind_eq_some_iff.mp h; obtain ⟨q18, hq18, h⟩ := h
  obtain ⟨hxq18, fsq18, hkq18⟩ := kO_spec hq18
  cases hxq18
  replace h := Option.bind_eq_some_iff.mp h; obtain ⟨r17, hr17, h⟩ := h
  refine ev_invV (M1 := M_X10_nights) (as := []) (fs := fsq18) (ci := 10) dX10_digestOfPlans_92 rfl tw_819 cal_X10_nights tw_739 tw_740 (by decide) rfl rfl (Nat.le_of_ble_eq_true rfl) hkq18 rfl (met_X10_nights o  w8 _ hr17) ?_
  refine ev_i2l (q := 96) dX10_digestOfPlans_95 rfl ?_
  refine ev_ladd (q := 97) dX10_digestOfPlans_96 rfl ?_
  refine ev_lstore_n (q := 98) dX10_digestOfPlans_97 rfl (by decide) ?_
  refine ev_ldc2 (q := 101) (v := (31 : Int64)) dX10_digestOfPlans_98 rfl tw_810 ?_
  refine ev_lload_n (q := 102) dX10_digestOfPlans_101 rfl rfl ?_
  refine ev_lmul (q := 103) dX10_digestOfPlans_102 rfl ?_
  refine ev_aload_n (q := 104) dX10_digestOfPlans_103 rfl rfl ?_
  refine ev_iconst (q := 105) (v := (0 : Int32)) dX10_digestOfPlans_104 rfl (by decide) ?_
  replace h := Option.bind_eq_some_iff.mp h; obtain ⟨q20, hq20, h⟩ := h
  obtain ⟨hxq20, fsq20, hkq20⟩ := kO_spec hq20
  cases hxq20
  replace h := Option.bind_eq_some_iff.mp h; obtain ⟨r19, hr19, h⟩ := h
  refine ev_invV (M1 := M_X10_who) (as := [vi ((0 : Int32))]) (fs := fsq20) (ci := 10) dX10_digestOfPlans_105 rfl tw_820 cal_X10_who tw_747 tw_748 (by decide) rfl rfl (Nat.le_of_ble_eq_true rfl) hkq20 rfl (met_X10_who o (0 : Int32) r17.2 _ hr19) ?_
  refine ev_i2l (q := 109) dX10_digestOfPlans_108 rfl ?_
  refine ev_ladd (q := 110) dX10_digestOfPlans_109 rfl ?_
  refine ev_lstore_n (q := 111) dX10_digestOfPlans_110 rfl (by decide) ?_
  refine ev_ldc2 (q := 114) (v := (31 : Int64)) dX10_digestOfPlans_111 rfl tw_810 ?_
  refine ev_lload_n (q := 115) dX10_digestOfPlans_114 rfl rfl ?_
  refine ev_lmul (q := 116) dX10_digestOfPlans_115 rfl ?_
  refine ev_aload_n (q := 117) dX10_digestOfPlans_116 rfl rfl ?_
  refine ev_bipush (q := 119) (v := (21 : Int32)) dX10_digestOfPlans_117 rfl (by decide) ?_
  replace h := Option.bind_eq_some_iff.mp h; obtain ⟨q22, hq22, h⟩ := h
  obtain ⟨hxq22, fsq22, hkq22⟩ := kO_spec hq22
  cases hxq22
  replace h := Option.bind_eq_some_iff.mp h; obtain ⟨r21, hr21, h⟩ := h
  refine ev_invV (M1 := M_X10_who) (as := [vi ((21 : Int32))]) (fs := fsq22) (ci := 10) dX10_digestOfPlans_119 rfl tw_820 cal_X10_who tw_747 tw_748 (by decide) rfl rfl (Nat.le_of_ble_eq_true rfl) hkq22 rfl (met_X10_who o (21 : Int32) r17.2 _ hr21) ?_
  refine ev_i2l (q := 123) dX10_digestOfPlans_122 rfl ?_
  refine ev_ladd (q := 124) dX10_digestOfPlans_123 rfl ?_
  cases h
  exact ev_lret dX10_digestOfPlans_124 rfl
def f_X10_sleeper (o : Nat) (v1 : Int32) (v2 : Int32) (w : mW) : Option (Int32 × mW) := Option.bind (kO w (some o) 10) fun _ => Option.bind (f_X10_isSleeper o v1 w) fun r1 => if r1 = 0 then (some (((-101 : Int32), w))) else (if v2 = 0 then (Option.bind (gR w (some o) 10 3) fun r3 => Option.bind (gR w r3 2 0) fun r4 => Option.bind (f_X10_at r4 v1 w) fun r5 => some ((r5, w))) else (if v2 = 1 then (Option.bind (gR w (some o) 10 3) fun r6 => Option.bind (gI w r6 2 7) fun r7 => some (((r7 >>> (v1 &&& 31)) &&& (1 : Int32), w))) else (if v2 = 2 then (Option.bind (gR w (some o) 10 3) fun r8 => Option.bind (gR w r8 2 1) fun r9 => Option.bind (f_X10_at r9 v1 w) fun r10 => some ((r10, w))) else (if v2 = 3 then (Option.bind (gR w (some o) 10 3) fun r11 => Option.bind (gR w r11 2 2) fun r12 => Option.bind (f_X10_at r12 v1 w) fun r13 => some ((r13, w))) else (if v2 = 4 then (Option.bind (kO w (some o) 10) fun _ => Option.bind (f_X10_bestPlaceFor o v1 w) fun r14 => some ((r14.1, r14.2))) else (some (((-102 : Int32), w))))))))
set_option maxRecDepth 100000 in
set_option maxHeartbeats 4000000 in
theorem met_X10_sleeper (o : Nat) (v1 : Int32) (v2 : Int32) (w : mW) (res : Int32 × mW) (h : f_X10_sleeper o v1 v2 w = some res) : mMet M_X10_sleeper 6 [vr ((some o)), vi v1, vi v2] w (some (vi res.1)) res.2 := by
  refine ev_met (n := 0) (by decide) rfl fun X => ?_
  unfold f_X10_sleeper at h
  show mEv X M_X10_sleeper 6 _ _ 0 [some (vr ((some o))), some (vi v1), some (vi v2)] [] w
  refine ev_aload_n (q := 1) dX10_sleeper_0 rfl rfl ?_
  refine ev_iload_n (q := 2) dX10_sleeper_1 rfl rfl ?_
  replace h := Option.bind_eq_some_iff.mp h; obtain ⟨q2, hq2, h⟩ := h
  obtain ⟨hxq2, fsq2, hkq2⟩ := kO_spec hq2
  cases hxq2
  replace h := Option.bind_eq_some_iff.mp h; obtain ⟨r1, hr1, h⟩ := h
  refine ev_invV (M1 := M_X10_isSleeper) (as := [vi v1]) (fs := fsq2) (ci := 10) dX10_sleeper_2 rfl tw_502 cal_X10_isSleeper tw_504 tw_9 (by decide) rfl rfl (Nat.le_of_ble_eq_true rfl) hkq2 rfl (met_X10_isSleeper o v1 w _ hr1) ?_
  by_cases hc : r1 = 0
  · rw [if_pos hc] at h
    refine ev_if_ne_f (q := 8) (t0 := 11) dX10_sleeper_5 (by decide) rfl hc ?_
    refine ev_bipush (q := 10) (v := (-101 : Int32)) dX10_sleeper_8 rfl (by decide) ?_
    cases h
    exact ev_iret dX10_sleeper_10 rfl rfl
  · rw [if_neg hc] at h
    refine ev_if_ne_t (q := 11) dX10_sleeper_5 (by decide) hc ?_
    refine ev_iload_n (q := 12) dX10_sleeper_11 rfl rfl ?_
    by_cases hc0 : v2 = 0
    · rw [if_pos hc0] at h
      refine ev_table_in (q := 48) (off := 36) dX10_sleeper_12 (by rw [hc0]; decide) (by rw [hc0]; decide) (by rw [hc0]; rfl) (by decide) ?_
      refine ev_aload_n (q := 49) dX10_sleeper_48 rfl rfl ?_
      replace h := Option.bind_eq_some_iff.mp h; obtain ⟨r3, hr3, h⟩ := h
      refine ev_gR dX10_sleeper_49 fl_X10_32 hr3 rfl ?_
      replace h := Option.bind_eq_some_iff.mp h; obtain ⟨r4, hr4, h⟩ := h
      refine ev_gR dX10_sleeper_52 fl_X10_79 hr4 rfl ?_
      refine ev_iload_n (q := 56) dX10_sleeper_55 rfl rfl ?_
      replace h := Option.bind_eq_some_iff.mp h; obtain ⟨r5, hr5, h⟩ := h
      refine ev_invS (M1 := M_X10_at) (as := [vr r4, vi v1]) dX10_sleeper_56 rfl tw_460 cal_X10_at tw_308 (by decide) rfl rfl (Nat.le_of_ble_eq_true rfl) (met_X10_at r4 v1 w _ hr5) ?_
      cases h
      exact ev_iret dX10_sleeper_59 rfl rfl
    · rw [if_neg hc0] at h
      by_cases hc1 : v2 = 1
      · rw [if_pos hc1] at h
        refine ev_table_in (q := 60) (off := 48) dX10_sleeper_12 (by rw [hc1]; decide) (by rw [hc1]; decide) (by rw [hc1]; rfl) (by decide) ?_
        refine ev_aload_n (q := 61) dX10_sleeper_60 rfl rfl ?_
        replace h := Option.bind_eq_some_iff.mp h; obtain ⟨r6, hr6, h⟩ := h
        refine ev_gR dX10_sleeper_61 fl_X10_32 hr6 rfl ?_
        replace h := Option.bind_eq_some_iff.mp h; obtain ⟨r7, hr7, h⟩ := h
        refine ev_gI dX10_sleeper_64 fl_X10_86 hr7 rfl ?_
        refine ev_iload_n (q := 68) dX10_sleeper_67 rfl rfl ?_
        refine ev_ishr (q := 69) dX10_sleeper_68 rfl ?_
        refine ev_iconst (q := 70) (v := (1 : Int32)) dX10_sleeper_69 rfl (by decide) ?_
        refine ev_iand (q := 71) dX10_sleeper_70 rfl ?_
        cases h
        exact ev_iret dX10_sleeper_71 rfl rfl
      · rw [if_neg hc1] at h
        by_cases hc2 : v2 = 2
        · rw [if_pos hc2] at h
          refine ev_table_in (q := 72) (off := 60) dX10_sleeper_12 (by rw [hc2]; decide) (by rw [hc2]; decide) (by rw [hc2]; rfl) (by decide) ?_
          refine ev_aload_n (q := 73) dX10_sleeper_72 rfl rfl ?_
          replace h := Option.bind_eq_some_iff.mp h; obtain ⟨r8, hr8, h⟩ := h
          refine ev_gR dX10_sleeper_73 fl_X10_32 hr8 rfl ?_
          replace h := Option.bind_eq_some_iff.mp h; obtain ⟨r9, hr9, h⟩ := h
          refine ev_gR dX10_sleeper_76 fl_X10_89 hr9 rfl ?_
          refine ev_iload_n (q := 80) dX10_sleeper_79 rfl rfl ?_
          replace h := Option.bind_eq_some_iff.mp h; obtain ⟨r10, hr10, h⟩ := h
          refine ev_invS (M1 := M_X10_at) (as := [vr r9, vi v1]) dX10_sleeper_80 rfl tw_460 cal_X10_at tw_308 (by decide) rfl rfl (Nat.le_of_ble_eq_true rfl) (met_X10_at r9 v1 w _ hr10) ?_
          cases h
          exact ev_iret dX10_sleeper_83 rfl rfl
        · rw [if_neg hc2] at h
          by_cases hc3 : v2 = 3
          · rw [if_pos hc3] at h
            refine ev_table_in (q := 84) (off := 72) dX10_sleeper_12 (by rw [hc3]; decide) (by rw [hc3]; decide) (by rw [hc3]; rfl) (by decide) ?_
            refine ev_aload_n (q := 85) dX10_sleeper_84 rfl rfl ?_
            replace h := Option.bind_eq_some_iff.mp h; obtain ⟨r11, hr11, h⟩ := h
            refine ev_gR dX10_sleeper_85 fl_X10_32 hr11 rfl ?_
            replace h := Option.bind_eq_some_iff.mp h; obtain ⟨r12, hr12, h⟩ := h
            refine ev_gR dX10_sleeper_88 fl_X10_92 hr12 rfl ?_
            refine ev_iload_n (q := 92) dX10_sleeper_91 rfl rfl ?_
            replace h := Option.bind_eq_some_iff.mp h; obtain ⟨r13, hr13, h⟩ := h
            refine ev_invS (M1 := M_X10_at) (as := [vr r12, vi v1]) dX10_sleeper_92 rfl tw_460 cal_X10_at tw_308 (by decide) rfl rfl (Nat.le_of_ble_eq_true rfl) (met_X10_at r12 v1 w _ hr13) ?_
            cases h
            exact ev_iret dX10_sleeper_95 rfl rfl
          · rw [if_neg hc3] at h
            by_cases hc4 : v2 = 4
            · rw [if_pos hc4] at h
              refine ev_table_in (q := 96) (off := 84) dX10_sleeper_12 (by rw [hc4]; decide) (by rw [hc4]; decide) (by rw [hc4]; rfl) (by decide) ?_
              refine ev_aload_n (q := 97) dX10_sleeper_96 rfl rfl ?_
              refine ev_iload_n (q := 98) dX10_sleeper_97 rfl rfl ?_
              replace h := Option.bind_eq_some_iff.mp h; obtain ⟨q15, hq15, h⟩ := h
              obtain ⟨hxq15, fsq15, hkq15⟩ := kO_spec hq15
              cases hxq15
              replace h := Option.bind_eq_some_iff.mp h; obtain ⟨r14, hr14, h⟩ := h
              refine ev_invV (M1 := M_X10_bestPlaceFor) (as := [vi v1]) (fs := fsq15) (ci := 10) dX10_sleeper_98 rfl tw_506 cal_X10_bestPlaceFor tw_508 tw_10 (by decide) rfl rfl (Nat.le_of_ble_eq_true rfl) hkq15 rfl (met_X10_bestPlaceFor o v1 w _ hr14) ?_
              cases h
              exact ev_iret dX10_sleeper_101 rfl rfl
            · rw [if_neg hc4] at h
              refine ev_table_out (q := 102) dX10_sleeper_12 (by have z0 := mNe (z := 0) (by decide) hc0; have z1 := mNe (z := 1) (by decide) hc1; have z2 := mNe (z := 2) (by decide) hc2; have z3 := mNe (z := 3) (by decide) hc3; have z4 := mNe (z := 4) (by decide) hc4; omega) (by decide) ?_
              refine ev_bipush (q := 104) (v := (-102 : Int32)) dX10_sleeper_102 rfl (by decide) ?_
              cases h
              exact ev_iret dX10_sleeper_104 rfl rfl
def f_X10_tosser (o : Nat) (v1 : Int32) (v2 : Int32) (w : mW) : Option (Int32) := Option.bind (kO w (some o) 10) fun _ => Option.bind (f_X10_tosserAt o v1 w) fun r1 => oC r1 (some ((-101 : Int32))) (fun a3 => if v2 = 0 then (Option.bind (dv_kind (some a3)  w) fun r4 => some (r4)) else (if v2 = 1 then (Option.bind (gR w (some o) 10 3) fun r5 => Option.bind (gR w r5 2 3) fun r6 => Option.bind (f_X10_at r6 v1 w) fun r7 => some (r7)) else (if v2 = 2 then (Option.bind (gR w (some o) 10 3) fun r8 => Option.bind (gR w r8 2 4) fun r9 => Option.bind (f_X10_at r9 v1 w) fun r10 => some (r10)) else (if v2 = 3 then (Option.bind (dv_batter (some a3)  w) fun r11 => some (r11)) else (if v2 = 4 then (Option.bind (kO w (some o) 10) fun _ => Option.bind (f_X10_bestAimOf o v1 w) fun r12 => some (r12)) else (if v2 = 5 then (Option.bind (kO w (some o) 10) fun _ => Option.bind (f_X10_bestAimOf o v1 w) fun r14 => Option.bind (kO w (some o) 10) fun _ => Option.bind (f_X10_freshOf o v1 r14 w) fun r16 => some (r16)) else (if v2 = 6 then (Option.bind (gR w (some o) 10 3) fun r18 => Option.bind (gR w r18 2 6) fun r19 => Option.bind (kO w r19 6) fun q21 => Option.bind (f_X6_turnsOf q21 v1 w) fun r20 => some (r20)) else (if v2 = 7 then (Option.bind (gR w (some o) 10 3) fun r22 => Option.bind (gR w r22 2 6) fun r23 => Option.bind (kO w r23 6) fun q25 => Option.bind (f_X6_turnsOf q25 v1 w) fun r24 => Option.bind (f_X10_tellingAim r24 w) fun r26 => some (r26)) else (if v2 = 8 then (Option.bind (gR w (some o) 10 3) fun r27 => Option.bind (gR w r27 2 5) fun r28 => Option.bind (f_X10_at r28 v1 w) fun r29 => some (r29)) else (some ((-102 : Int32))))))))))))
set_option maxRecDepth 100000 in
set_option maxHeartbeats 4000000 in
theorem met_X10_tosser (o : Nat) (v1 : Int32) (v2 : Int32) (w : mW) (res : Int32) (h : f_X10_tosser o v1 v2 w = some res) : mMet M_X10_tosser 6 [vr ((some o)), vi v1, vi v2] w (some (vi res)) w := by
  refine ev_met (n := 1) (by decide) rfl fun X => ?_
  unfold f_X10_tosser at h
  show mEv X M_X10_tosser 6 _ _ 0 [some (vr ((some o))), some (vi v1), some (vi v2), none] [] w
  refine ev_aload_n (q := 1) dX10_tosser_0 rfl rfl ?_
  refine ev_iload_n (q := 2) dX10_tosser_1 rfl rfl ?_
  replace h := Option.bind_eq_some_iff.mp h; obtain ⟨q2, hq2, h⟩ := h
  obtain ⟨hxq2, fsq2, hkq2⟩ := kO_spec hq2
  cases hxq2
  replace h := Option.bind_eq_some_iff.mp h; obtain ⟨r1, hr1, h⟩ := h
  refine ev_invV (M1 := M_X10_tosserAt) (as := [vi v1]) (fs := fsq2) (ci := 10) dX10_tosser_2 rfl tw_515 cal_X10_tosserAt tw_517 tw_12 (by decide) rfl rfl (Nat.le_of_ble_eq_true rfl) hkq2 rfl (met_X10_tosserAt o v1 w _ hr1) ?_
  refine ev_astore_n (q := 6) dX10_tosser_5 rfl (by decide) ?_
  refine ev_aload_n (q := 7) dX10_tosser_6 rfl rfl ?_
  rcases r1 with _ | a3
  · dsimp only [oC] at h
    refine ev_ifnonnull_f (q := 10) dX10_tosser_7 rfl ?_
    refine ev_bipush (q := 12) (v := (-101 : Int32)) dX10_tosser_10 rfl (by decide) ?_
    cases h
    exact ev_iret dX10_tosser_12 rfl rfl
  · dsimp only [oC] at h
    refine ev_ifnonnull_t (q := 13) dX10_tosser_7 (by decide) ?_
    refine ev_iload_n (q := 14) dX10_tosser_13 rfl rfl ?_
    by_cases hc0 : v2 = 0
    · rw [if_pos hc0] at h
      refine ev_table_in (q := 64) (off := 50) dX10_tosser_14 (by rw [hc0]; decide) (by rw [hc0]; decide) (by rw [hc0]; rfl) (by decide) ?_
      refine ev_aload_n (q := 65) dX10_tosser_64 rfl rfl ?_
      replace h := Option.bind_eq_some_iff.mp h; obtain ⟨r4, hr4, h⟩ := h
      refine ev_dv_kind dX10_tosser_65 rfl tw_560 (by decide) (Nat.le_of_ble_eq_true rfl) hr4 ?_
      cases h
      exact ev_iret dX10_tosser_68 rfl rfl
    · rw [if_neg hc0] at h
      by_cases hc1 : v2 = 1
      · rw [if_pos hc1] at h
        refine ev_table_in (q := 69) (off := 55) dX10_tosser_14 (by rw [hc1]; decide) (by rw [hc1]; decide) (by rw [hc1]; rfl) (by decide) ?_
        refine ev_aload_n (q := 70) dX10_tosser_69 rfl rfl ?_
        replace h := Option.bind_eq_some_iff.mp h; obtain ⟨r5, hr5, h⟩ := h
        refine ev_gR dX10_tosser_70 fl_X10_32 hr5 rfl ?_
        replace h := Option.bind_eq_some_iff.mp h; obtain ⟨r6, hr6, h⟩ := h
        refine ev_gR dX10_tosser_73 fl_X10_107 hr6 rfl ?_
        refine ev_iload_n (q := 77) dX10_tosser_76 rfl rfl ?_
        replace h := Option.bind_eq_some_iff.mp h; obtain ⟨r7, hr7, h⟩ := h
        refine ev_invS (M1 := M_X10_at) (as := [vr r6, vi v1]) dX10_tosser_77 rfl tw_460 cal_X10_at tw_308 (by decide) rfl rfl (Nat.le_of_ble_eq_true rfl) (met_X10_at r6 v1 w _ hr7) ?_
        cases h
        exact ev_iret dX10_tosser_80 rfl rfl
      · rw [if_neg hc1] at h
        by_cases hc2 : v2 = 2
        · rw [if_pos hc2] at h
          refine ev_table_in (q := 81) (off := 67) dX10_tosser_14 (by rw [hc2]; decide) (by rw [hc2]; decide) (by rw [hc2]; rfl) (by decide) ?_
          refine ev_aload_n (q := 82) dX10_tosser_81 rfl rfl ?_
          replace h := Option.bind_eq_some_iff.mp h; obtain ⟨r8, hr8, h⟩ := h
          refine ev_gR dX10_tosser_82 fl_X10_32 hr8 rfl ?_
          replace h := Option.bind_eq_some_iff.mp h; obtain ⟨r9, hr9, h⟩ := h
          refine ev_gR dX10_tosser_85 fl_X10_110 hr9 rfl ?_
          refine ev_iload_n (q := 89) dX10_tosser_88 rfl rfl ?_
          replace h := Option.bind_eq_some_iff.mp h; obtain ⟨r10, hr10, h⟩ := h
          refine ev_invS (M1 := M_X10_at) (as := [vr r9, vi v1]) dX10_tosser_89 rfl tw_460 cal_X10_at tw_308 (by decide) rfl rfl (Nat.le_of_ble_eq_true rfl) (met_X10_at r9 v1 w _ hr10) ?_
          cases h
          exact ev_iret dX10_tosser_92 rfl rfl
        · rw [if_neg hc2] at h
          by_cases hc3 : v2 = 3
          · rw [if_pos hc3] at h
            refine ev_table_in (q := 93) (off := 79) dX10_tosser_14 (by rw [hc3]; decide) (by rw [hc3]; decide) (by rw [hc3]; rfl) (by decide) ?_
            refine ev_aload_n (q := 94) dX10_tosser_93 rfl rfl ?_
            replace h := Option.bind_eq_some_iff.mp h; obtain ⟨r11, hr11, h⟩ := h
            refine ev_dv_batter dX10_tosser_94 rfl tw_577 (by decide) (Nat.le_of_ble_eq_true rfl) hr11 ?_
            cases h
            exact ev_iret dX10_tosser_97 rfl rfl
          · rw [if_neg hc3] at h
            by_cases hc4 : v2 = 4
            · rw [if_pos hc4] at h
              refine ev_table_in (q := 98) (off := 84) dX10_tosser_14 (by rw [hc4]; decide) (by rw [hc4]; decide) (by rw [hc4]; rfl) (by decide) ?_
              refine ev_aload_n (q := 99) dX10_tosser_98 rfl rfl ?_
              refine ev_iload_n (q := 100) dX10_tosser_99 rfl rfl ?_
              replace h := Option.bind_eq_some_iff.mp h; obtain ⟨q13, hq13, h⟩ := h
              obtain ⟨hxq13, fsq13, hkq13⟩ := kO_spec hq13
              cases hxq13
              replace h := Option.bind_eq_some_iff.mp h; obtain ⟨r12, hr12, h⟩ := h
              refine ev_invV (M1 := M_X10_bestAimOf) (as := [vi v1]) (fs := fsq13) (ci := 10) dX10_tosser_100 rfl tw_594 cal_X10_bestAimOf tw_596 tw_16 (by decide) rfl rfl (Nat.le_of_ble_eq_true rfl) hkq13 rfl (met_X10_bestAimOf o v1 w _ hr12) ?_
              cases h
              exact ev_iret dX10_tosser_103 rfl rfl
            · rw [if_neg hc4] at h
              by_cases hc5 : v2 = 5
              · rw [if_pos hc5] at h
                refine ev_table_in (q := 104) (off := 90) dX10_tosser_14 (by rw [hc5]; decide) (by rw [hc5]; decide) (by rw [hc5]; rfl) (by decide) ?_
                refine ev_aload_n (q := 105) dX10_tosser_104 rfl rfl ?_
                refine ev_iload_n (q := 106) dX10_tosser_105 rfl rfl ?_
                refine ev_aload_n (q := 107) dX10_tosser_106 rfl rfl ?_
                refine ev_iload_n (q := 108) dX10_tosser_107 rfl rfl ?_
                replace h := Option.bind_eq_some_iff.mp h; obtain ⟨q15, hq15, h⟩ := h
                obtain ⟨hxq15, fsq15, hkq15⟩ := kO_spec hq15
                cases hxq15
                replace h := Option.bind_eq_some_iff.mp h; obtain ⟨r14, hr14, h⟩ := h
                refine ev_invV (M1 := M_X10_bestAimOf) (as := [vi v1]) (fs := fsq15) (ci := 10) dX10_tosser_108 rfl tw_594 cal_X10_bestAimOf tw_596 tw_16 (by decide) rfl rfl (Nat.le_of_ble_eq_true rfl) hkq15 rfl (met_X10_bestAimOf o v1 w _ hr14) ?_
                replace h := Option.bind_eq_some_iff.mp h; obtain ⟨q17, hq17, h⟩ := h
                obtain ⟨hxq17, fsq17, hkq17⟩ := kO_spec hq17
                cases hxq17
                replace h := Option.bind_eq_some_iff.mp h; obtain ⟨r16, hr16, h⟩ := h
                refine ev_invV (M1 := M_X10_freshOf) (as := [vi v1, vi r14]) (fs := fsq17) (ci := 10) dX10_tosser_111 rfl tw_598 cal_X10_freshOf tw_600 tw_17 (by decide) rfl rfl (Nat.le_of_ble_eq_true rfl) hkq17 rfl (met_X10_freshOf o v1 r14 w _ hr16) ?_
                cases h
                exact ev_iret dX10_tosser_114 rfl rfl
              · rw [if_neg hc5] at h
                by_cases hc6 : v2 = 6
                · rw [if_pos hc6] at h
                  refine ev_table_in (q := 115) (off := 101) dX10_tosser_14 (by rw [hc6]; decide) (by rw [hc6]; decide) (by rw [hc6]; rfl) (by decide) ?_
                  refine ev_aload_n (q := 116) dX10_tosser_115 rfl rfl ?_
                  replace h := Option.bind_eq_some_iff.mp h; obtain ⟨r18, hr18, h⟩ := h
                  refine ev_gR dX10_tosser_116 fl_X10_32 hr18 rfl ?_
                  replace h := Option.bind_eq_some_iff.mp h; obtain ⟨r19, hr19, h⟩ := h
                  refine ev_gR dX10_tosser_119 fl_X10_123 hr19 rfl ?_
                  refine ev_iload_n (q := 123) dX10_tosser_122 rfl rfl ?_
                  replace h := Option.bind_eq_some_iff.mp h; obtain ⟨q21, hq21, h⟩ := h
                  obtain ⟨hxq21, fsq21, hkq21⟩ := kO_spec hq21
                  subst hxq21
                  replace h := Option.bind_eq_some_iff.mp h; obtain ⟨r20, hr20, h⟩ := h
                  refine ev_invV (M1 := M_X6_turnsOf) (as := [vi v1]) (fs := fsq21) (ci := 6) dX10_tosser_123 rfl tw_612 cal_X6_turnsOf tw_613 tw_614 (by decide) rfl rfl (Nat.le_of_ble_eq_true rfl) hkq21 rfl (met_X6_turnsOf q21 v1 w _ hr20) ?_
                  cases h
                  exact ev_iret dX10_tosser_126 rfl rfl
                · rw [if_neg hc6] at h
                  by_cases hc7 : v2 = 7
                  · rw [if_pos hc7] at h
                    refine ev_table_in (q := 127) (off := 113) dX10_tosser_14 (by rw [hc7]; decide) (by rw [hc7]; decide) (by rw [hc7]; rfl) (by decide) ?_
                    refine ev_aload_n (q := 128) dX10_tosser_127 rfl rfl ?_
                    replace h := Option.bind_eq_some_iff.mp h; obtain ⟨r22, hr22, h⟩ := h
                    refine ev_gR dX10_tosser_128 fl_X10_32 hr22 rfl ?_
                    replace h := Option.bind_eq_some_iff.mp h; obtain ⟨r23, hr23, h⟩ := h
                    refine ev_gR dX10_tosser_131 fl_X10_123 hr23 rfl ?_
                    refine ev_iload_n (q := 135) dX10_tosser_134 rfl rfl ?_
                    replace h := Option.bind_eq_some_iff.mp h; obtain ⟨q25, hq25, h⟩ := h
                    obtain ⟨hxq25, fsq25, hkq25⟩ := kO_spec hq25
                    subst hxq25
                    replace h := Option.bind_eq_some_iff.mp h; obtain ⟨r24, hr24, h⟩ := h
                    refine ev_invV (M1 := M_X6_turnsOf) (as := [vi v1]) (fs := fsq25) (ci := 6) dX10_tosser_135 rfl tw_612 cal_X6_turnsOf tw_613 tw_614 (by decide) rfl rfl (Nat.le_of_ble_eq_true rfl) hkq25 rfl (met_X6_turnsOf q25 v1 w _ hr24) ?_
                    replace h := Option.bind_eq_some_iff.mp h; obtain ⟨r26, hr26, h⟩ := h
                    refine ev_invS (M1 := M_X10_tellingAim) (as := [vi r24]) dX10_tosser_138 rfl tw_627 cal_X10_tellingAim tw_628 (by decide) rfl rfl (Nat.le_of_ble_eq_true rfl) (met_X10_tellingAim r24 w _ hr26) ?_
                    cases h
                    exact ev_iret dX10_tosser_141 rfl rfl
                  · rw [if_neg hc7] at h
                    by_cases hc8 : v2 = 8
                    · rw [if_pos hc8] at h
                      refine ev_table_in (q := 142) (off := 128) dX10_tosser_14 (by rw [hc8]; decide) (by rw [hc8]; decide) (by rw [hc8]; rfl) (by decide) ?_
                      refine ev_aload_n (q := 143) dX10_tosser_142 rfl rfl ?_
                      replace h := Option.bind_eq_some_iff.mp h; obtain ⟨r27, hr27, h⟩ := h
                      refine ev_gR dX10_tosser_143 fl_X10_32 hr27 rfl ?_
                      replace h := Option.bind_eq_some_iff.mp h; obtain ⟨r28, hr28, h⟩ := h
                      refine ev_gR dX10_tosser_146 fl_X10_135 hr28 rfl ?_
                      refine ev_iload_n (q := 150) dX10_tosser_149 rfl rfl ?_
                      replace h := Option.bind_eq_some_iff.mp h; obtain ⟨r29, hr29, h⟩ := h
                      refine ev_invS (M1 := M_X10_at) (as := [vr r28, vi v1]) dX10_tosser_150 rfl tw_460 cal_X10_at tw_308 (by decide) rfl rfl (Nat.le_of_ble_eq_true rfl) (met_X10_at r28 v1 w _ hr29) ?_
                      cases h
                      exact ev_iret dX10_tosser_153 rfl rfl
                    · rw [if_neg hc8] at h
                      refine ev_table_out (q := 154) dX10_tosser_14 (by have z0 := mNe (z := 0) (by decide) hc0; have z1 := mNe (z := 1) (by decide) hc1; have z2 := mNe (z := 2) (by decide) hc2; have z3 := mNe (z := 3) (by decide) hc3; have z4 := mNe (z := 4) (by decide) hc4; have z5 := mNe (z := 5) (by decide) hc5; have z6 := mNe (z := 6) (by decide) hc6; have z7 := mNe (z := 7) (by decide) hc7; have z8 := mNe (z := 8) (by decide) hc8; omega) (by decide) ?_
                      refine ev_bipush (q := 156) (v := (-102 : Int32)) dX10_tosser_154 rfl (by decide) ?_
                      cases h
                      exact ev_iret dX10_tosser_156 rfl rfl
def f_X5_read_L30 (o : Nat) (v1 : Option Nat) (v2 : Int32) : Nat → Int32 → mW → Option ((Int32 × mW) ⊕ (mW))
  | 0, _, _ => none
  | n + 1, v3, w => if v2 ≤ v3 then (some (.inr w)) else (Option.bind (gR w v1 3 0) fun r1 => Option.bind (f_X10_at r1 v3 w) fun r2 => Option.bind (kO w (some o) 5) fun _ => Option.bind (f_X5_takes o r2 w) fun r3 => if r3.1 = 0 then (some (.inl (v3, r3.2))) else ((f_X5_read_L30 o v1 v2 n) (v3 + (1 : Int32)) r3.2))
set_option maxRecDepth 100000 in
set_option maxHeartbeats 4000000 in
theorem e_X5_read_L30 {X : mXs} {r : Option mV} {w' : mW} (P : ((Int32 × mW) ⊕ (mW)) → Prop) (o : Nat) (v1 : Option Nat) (v2 : Int32) (hret : ∀ y, P (.inl y) → r = (some (vi y.1)) ∧ w' = y.2) (hexit : ∀ y, P (.inr y) → mEv X M_X5_read 6 r w' 58 [none, none, some (vi v2), none] [] y) : ∀ (n : Nat) (v3 : Int32) (w : mW) (e : (Int32 × mW) ⊕ (mW)), f_X5_read_L30 o v1 v2 n v3 w = some e → P e → mEv X M_X5_read 6 r w' 30 [some (vr ((some o))), some (vr v1), some (vi v2), some (vi v3)] [] w := by
  intro n
  induction n with
  | zero =>
    intro v3 w e h hP
    rw [f_X5_read_L30] at h
    cases h
  | succ n hk =>
    intro v3 w e h hP
    rw [f_X5_read_L30] at h
    refine ev_iload_n (q := 31) dX5_read_30 rfl rfl ?_
    refine ev_iload_n (q := 32) dX5_read_31 rfl rfl ?_
    by_cases hc : v2 ≤ v3
    · rw [if_pos hc] at h
      refine ev_icmp_ge_t (q := 58) dX5_read_32 (by decide) hc ?_
      cases h
      exact ev_weak _ (mLe_none (mLe_none (mLe_some (mLe_none mLe_nil)))) (hexit _ hP)
    · rw [if_neg hc] at h
      refine ev_icmp_ge_f (q := 35) (t0 := 58) dX5_read_32 (by decide) rfl hc ?_
      refine ev_aload_n (q := 36) dX5_read_35 rfl rfl ?_
      refine ev_aload_n (q := 37) dX5_read_36 rfl rfl ?_
      replace h := Option.bind_eq_some_iff.mp h; obtain ⟨r1, hr1, h⟩ := h
      refine ev_gR dX5_read_37 fl_X5_39 hr1 rfl ?_
      refine ev_iload_n (q := 41) dX5_read_40 rfl rfl ?_
      replace h := Option.bind_eq_some_iff.mp h; obtain ⟨r2, hr2, h⟩ := h
      refine ev_invSN (M1 := M_X10_at) (as := [vr r1, vi v3]) dX5_read_41 rfl tw_307 cal_X10_at tw_308 (by decide) rfl rfl (Nat.le_of_ble_eq_true rfl) (met_X10_at r1 v3 w _ hr2) ?_
      replace h := Option.bind_eq_some_iff.mp h; obtain ⟨q4, hq4, h⟩ := h
      obtain ⟨hxq4, fsq4, hkq4⟩ := kO_spec hq4
      cases hxq4
      replace h := Option.bind_eq_some_iff.mp h; obtain ⟨r3, hr3, h⟩ := h
      refine ev_invV (M1 := M_X5_takes) (as := [vi r2]) (fs := fsq4) (ci := 5) dX5_read_44 rfl tw_310 cal_X5_takes tw_312 tw_0 (by decide) rfl rfl (Nat.le_of_ble_eq_true rfl) hkq4 rfl (met_X5_takes o r2 w _ hr3) ?_
      by_cases hc : r3.1 = 0
      · rw [if_pos hc] at h
        refine ev_if_ne_f (q := 50) (t0 := 52) dX5_read_47 (by decide) rfl hc ?_
        refine ev_iload_n (q := 51) dX5_read_50 rfl rfl ?_
        cases h
        obtain ⟨hr1, hr2⟩ := hret _ hP
        subst hr1
        subst hr2
        exact ev_iret dX5_read_51 rfl rfl
      · rw [if_neg hc] at h
        refine ev_if_ne_t (q := 52) dX5_read_47 (by decide) hc ?_
        refine ev_iinc (q := 55) (v := v3 + (1 : Int32)) dX5_read_52 rfl (by decide) rfl (by rfl) ?_
        refine ev_goto (q := 30) dX5_read_55 (by decide) ?_
        exact ev_weak _ (mLe_some (mLe_some (mLe_some (mLe_some mLe_nil)))) (hk (v3 + (1 : Int32)) r3.2 _ h hP)
def f_X5_read_J27 (o : Nat) (v1 : Option Nat) (s0 : Int32) (w : mW) : Option (Int32 × mW) := Option.bind (f_X5_read_L30 o v1 s0 mFuel (0 : Int32) w) fun e5 => match e5 with | .inl y7 => some y7 | .inr y6 => some ((s0, y6))
set_option maxRecDepth 100000 in
set_option maxHeartbeats 4000000 in
theorem e_X5_read_J27 {X : mXs} (o : Nat) (v1 : Option Nat) (s0 : Int32) (w : mW) (res : Int32 × mW) (h : f_X5_read_J27 o v1 s0 w = some res) : mEv X M_X5_read 6 (some (vi res.1)) res.2 27 [some (vr ((some o))), some (vr v1), none, none] [vi s0] w := by
  unfold f_X5_read_J27 at h
  refine ev_istore_n (q := 28) dX5_read_27 rfl (by decide) ?_
  refine ev_iconst (q := 29) (v := (0 : Int32)) dX5_read_28 rfl (by decide) ?_
  refine ev_istore_n (q := 30) dX5_read_29 rfl (by decide) ?_
  replace h := Option.bind_eq_some_iff.mp h; obtain ⟨e5, he5, h⟩ := h
  refine ev_weak _ (mLe_some (mLe_some (mLe_some (mLe_some mLe_nil)))) (e_X5_read_L30 (fun z => e5 = z) o v1 s0 (fun y7 hq => ?_) (fun y6 hq => ?_) mFuel (0 : Int32) w _ he5 rfl)
  · subst hq
    dsimp only at h
    cases h
    exact ⟨rfl, rfl⟩
  · subst hq
    dsimp only at h
    refine ev_iload_n (q := 59) dX5_read_58 rfl rfl ?_
    cases h
    exact ev_iret dX5_read_59 rfl rfl
def f_X5_read (o : Nat) (v1 : Option Nat) (w : mW) : Option (Int32 × mW) := Option.bind (pI w (some o) 5 4 (0 : Int32)) fun w8 => Option.bind (pI w8 (some o) 5 5 (0 : Int32)) fun w9 => Option.bind (pI w9 (some o) 5 7 (0 : Int32)) fun w10 => oC v1 (f_X5_read_J27 o none (0 : Int32) w10) (fun a11 => Option.bind (gI w10 (some a11) 3 1) fun r12 => f_X5_read_J27 o (some a11) r12 w10)
set_option maxRecDepth 100000 in
set_option maxHeartbeats 4000000 in
theorem met_X5_read (o : Nat) (v1 : Option Nat) (w : mW) (res : Int32 × mW) (h : f_X5_read o v1 w = some res) : mMet M_X5_read 6 [vr ((some o)), vr v1] w (some (vi res.1)) res.2 := by
  refine ev_met (n := 2) (by decide) rfl fun X => ?_
  unfold f_X5_read at h
  show mEv X M_X5_read 6 _ _ 0 [some (vr ((some o))), some (vr v1), none, none] [] w
  refine ev_aload_n (q := 1) dX5_read_0 rfl rfl ?_
  refine ev_iconst (q := 2) (v := (0 : Int32)) dX5_read_1 rfl (by decide) ?_
  replace h := Option.bind_eq_some_iff.mp h; obtain ⟨w8, hw8, h⟩ := h
  refine ev_pI dX5_read_2 fp_X5_24 hw8 rfl ?_
  refine ev_aload_n (q := 6) dX5_read_5 rfl rfl ?_
  refine ev_iconst (q := 7) (v := (0 : Int32)) dX5_read_6 rfl (by decide) ?_
  replace h := Option.bind_eq_some_iff.mp h; obtain ⟨w9, hw9, h⟩ := h
  refine ev_pI dX5_read_7 fp_X5_28 hw9 rfl ?_
  refine ev_aload_n (q := 11) dX5_read_10 rfl rfl ?_
  refine ev_iconst (q := 12) (v := (0 : Int32)) dX5_read_11 rfl (by decide) ?_
  replace h := Option.bind_eq_some_iff.mp h; obtain ⟨w10, hw10, h⟩ := h
  refine ev_pI dX5_read_12 fp_X5_31 hw10 rfl ?_
  refine ev_aload_n (q := 16) dX5_read_15 rfl rfl ?_
  rcases v1 with _ | a11
  · dsimp only [oC] at h
    refine ev_ifnonnull_f (q := 19) dX5_read_16 rfl ?_
    refine ev_iconst (q := 20) (v := (0 : Int32)) dX5_read_19 rfl (by decide) ?_
    refine ev_goto (q := 27) dX5_read_20 (by decide) ?_
    exact ev_weak _ (mLe_some (mLe_some (mLe_none (mLe_none mLe_nil)))) (e_X5_read_J27 o none (0 : Int32) w10 _ h)
  · dsimp only [oC] at h
    refine ev_ifnonnull_t (q := 23) dX5_read_16 (by decide) ?_
    refine ev_aload_n (q := 24) dX5_read_23 rfl rfl ?_
    replace h := Option.bind_eq_some_iff.mp h; obtain ⟨r12, hr12, h⟩ := h
    refine ev_gI dX5_read_24 fl_X5_34 hr12 rfl ?_
    exact ev_weak _ (mLe_some (mLe_some (mLe_none (mLe_none mLe_nil)))) (e_X5_read_J27 o (some a11) r12 w10 _ h)
def f_X11_allOf_J82 (s0 : Int32) (w : mW) : Option (Int32 × mW) := some ((s0, w))
set_option maxRecDepth 100000 in
set_option maxHeartbeats 4000000 in
theorem e_X11_allOf_J82 {X : mXs} (s0 : Int32) (w : mW) (res : Int32 × mW) (h : f_X11_allOf_J82 s0 w = some res) : mEv X M_X11_allOf 6 (some (vi res.1)) res.2 82 [none, none, none] [vi s0] w := by
  unfold f_X11_allOf_J82 at h
  cases h
  exact ev_iret dX11_allOf_82 rfl rfl
def f_X11_allOf_J52 (s0 : Int32) (w : mW) : Option (Int32 × mW) := some ((s0, w))
set_option maxRecDepth 100000 in
set_option maxHeartbeats 4000000 in
theorem e_X11_allOf_J52 {X : mXs} (s0 : Int32) (w : mW) (res : Int32 × mW) (h : f_X11_allOf_J52 s0 w = some res) : mEv X M_X11_allOf 6 (some (vi res.1)) res.2 52 [none, none, none] [vi s0] w := by
  unfold f_X11_allOf_J52 at h
  cases h
  exact ev_iret dX11_allOf_52 rfl rfl
def f_X11_allOf (o : Nat) (v1 : Int32) (w : mW) : Option (Int32 × mW) := Option.bind (kO w (some o) 11) fun _ => Option.bind (f_X11_layLeast o  w) fun w1 => Option.bind (kO w1 (some o) 11) fun _ => Option.bind (f_X11_open o  w1) fun r3 => Option.bind (gR w1 (some o) 11 19) fun r5 => Option.bind (aL w1 r5 r3) fun r6 => if r6 < (1000000 : Int32) then (if (2 : Int32) ≤ v1 then (Option.bind (kO w1 (some o) 11) fun _ => Option.bind (f_X11_layRow o r3 w1) fun w7 => Option.bind (gI w7 (some o) 11 21) fun r9 => if r9 ≤ v1 - (10 : Int32) then (f_X11_allOf_J82 (-1 : Int32) w7) else (Option.bind (gR w7 (some o) 11 20) fun r10 => Option.bind (aL w7 r10 (v1 - (10 : Int32))) fun r11 => f_X11_allOf_J82 r11 w7)) else (if v1 = 0 then (Option.bind (gR w1 (some o) 11 19) fun r14 => Option.bind (aL w1 r14 r3) fun r15 => f_X11_allOf_J52 (r15 / (100 : Int32)) w1) else (Option.bind (gR w1 (some o) 11 19) fun r12 => Option.bind (aL w1 r12 r3) fun r13 => f_X11_allOf_J52 (r13 - r13 / (100 : Int32) * (100 : Int32)) w1))) else (some (((-1 : Int32), w1)))
set_option maxRecDepth 100000 in
set_option maxHeartbeats 4000000 in
theorem met_X11_allOf (o : Nat) (v1 : Int32) (w : mW) (res : Int32 × mW) (h : f_X11_allOf o v1 w = some res) : mMet M_X11_allOf 6 [vr ((some o)), vi v1] w (some (vi res.1)) res.2 := by
  refine ev_met (n := 1) (by decide) rfl fun X => ?_
  unfold f_X11_allOf at h
  show mEv X M_X11_allOf 6 _ _ 0 [some (vr ((some o))), some (vi v1), none] [] w
  refine ev_aload_n (q := 1) dX11_allOf_0 rfl rfl ?_
  replace h := Option.bind_eq_some_iff.mp h; obtain ⟨q2, hq2, h⟩ := h
  obtain ⟨hxq2, fsq2, hkq2⟩ := kO_spec hq2
  cases hxq2
  replace h := Option.bind_eq_some_iff.mp h; obtain ⟨w1, hw1, h⟩ := h
  refine ev_invV (M1 := M_X11_layLeast) (as := []) (fs := fsq2) (ci := 11) dX11_allOf_1 rfl tw_1135 cal_X11_layLeast tw_1137 tw_50 (by decide) rfl rfl (Nat.le_of_ble_eq_true rfl) hkq2 rfl (met_X11_layLeast o  w _ hw1) ?_
  refine ev_aload_n (q := 5) dX11_allOf_4 rfl rfl ?_
  replace h := Option.bind_eq_some_iff.mp h; obtain ⟨q4, hq4, h⟩ := h
  obtain ⟨hxq4, fsq4, hkq4⟩ := kO_spec hq4
  cases hxq4
  replace h := Option.bind_eq_some_iff.mp h; obtain ⟨r3, hr3, h⟩ := h
  refine ev_invV (M1 := M_X11_open) (as := []) (fs := fsq4) (ci := 11) dX11_allOf_5 rfl tw_1072 cal_X11_open tw_1074 tw_45 (by decide) rfl rfl (Nat.le_of_ble_eq_true rfl) hkq4 rfl (met_X11_open o  w1 _ hr3) ?_
  refine ev_istore_n (q := 9) dX11_allOf_8 rfl (by decide) ?_
  refine ev_aload_n (q := 10) dX11_allOf_9 rfl rfl ?_
  replace h := Option.bind_eq_some_iff.mp h; obtain ⟨r5, hr5, h⟩ := h
  refine ev_gR dX11_allOf_10 fl_X11_40 hr5 rfl ?_
  refine ev_iload_n (q := 14) dX11_allOf_13 rfl rfl ?_
  replace h := Option.bind_eq_some_iff.mp h; obtain ⟨r6, hr6, h⟩ := h
  refine ev_aL dX11_allOf_14 hr6 rfl ?_
  refine ev_ldc (q := 17) (v := (1000000 : Int32)) dX11_allOf_15 rfl tw_1139 ?_
  by_cases hc : r6 < (1000000 : Int32)
  · rw [if_pos hc] at h
    refine ev_icmp_lt_t (q := 22) dX11_allOf_17 (by decide) hc ?_
    refine ev_iload_n (q := 23) dX11_allOf_22 rfl rfl ?_
    refine ev_iconst (q := 24) (v := (2 : Int32)) dX11_allOf_23 rfl (by decide) ?_
    by_cases hc : (2 : Int32) ≤ v1
    · rw [if_pos hc] at h
      refine ev_icmp_ge_t (q := 53) dX11_allOf_24 (by decide) hc ?_
      refine ev_aload_n (q := 54) dX11_allOf_53 rfl rfl ?_
      refine ev_iload_n (q := 55) dX11_allOf_54 rfl rfl ?_
      replace h := Option.bind_eq_some_iff.mp h; obtain ⟨q8, hq8, h⟩ := h
      obtain ⟨hxq8, fsq8, hkq8⟩ := kO_spec hq8
      cases hxq8
      replace h := Option.bind_eq_some_iff.mp h; obtain ⟨w7, hw7, h⟩ := h
      refine ev_invV (M1 := M_X11_layRow) (as := [vi r3]) (fs := fsq8) (ci := 11) dX11_allOf_55 rfl tw_1144 cal_X11_layRow tw_1146 tw_52 (by decide) rfl rfl (Nat.le_of_ble_eq_true rfl) hkq8 rfl (met_X11_layRow o r3 w1 _ hw7) ?_
      refine ev_iload_n (q := 59) dX11_allOf_58 rfl rfl ?_
      refine ev_bipush (q := 61) (v := (10 : Int32)) dX11_allOf_59 rfl (by decide) ?_
      refine ev_isub (q := 62) dX11_allOf_61 rfl ?_
      refine ev_aload_n (q := 63) dX11_allOf_62 rfl rfl ?_
      replace h := Option.bind_eq_some_iff.mp h; obtain ⟨r9, hr9, h⟩ := h
      refine ev_gI dX11_allOf_63 fl_X11_223 hr9 rfl ?_
      by_cases hc : r9 ≤ v1 - (10 : Int32)
      · rw [if_pos hc] at h
        refine ev_icmp_ge_t (q := 81) dX11_allOf_66 (by decide) hc ?_
        refine ev_iconst (q := 82) (v := (-1 : Int32)) dX11_allOf_81 rfl (by decide) ?_
        exact ev_weak _ (mLe_none (mLe_none (mLe_none mLe_nil))) (e_X11_allOf_J82 (-1 : Int32) w7 _ h)
      · rw [if_neg hc] at h
        refine ev_icmp_ge_f (q := 69) (t0 := 81) dX11_allOf_66 (by decide) rfl hc ?_
        refine ev_aload_n (q := 70) dX11_allOf_69 rfl rfl ?_
        replace h := Option.bind_eq_some_iff.mp h; obtain ⟨r10, hr10, h⟩ := h
        refine ev_gR dX11_allOf_70 fl_X11_43 hr10 rfl ?_
        refine ev_iload_n (q := 74) dX11_allOf_73 rfl rfl ?_
        refine ev_bipush (q := 76) (v := (10 : Int32)) dX11_allOf_74 rfl (by decide) ?_
        refine ev_isub (q := 77) dX11_allOf_76 rfl ?_
        replace h := Option.bind_eq_some_iff.mp h; obtain ⟨r11, hr11, h⟩ := h
        refine ev_aL dX11_allOf_77 hr11 rfl ?_
        refine ev_goto (q := 82) dX11_allOf_78 (by decide) ?_
        exact ev_weak _ (mLe_none (mLe_none (mLe_none mLe_nil))) (e_X11_allOf_J82 r11 w7 _ h)
    · rw [if_neg hc] at h
      refine ev_icmp_ge_f (q := 27) (t0 := 53) dX11_allOf_24 (by decide) rfl hc ?_
      refine ev_iload_n (q := 28) dX11_allOf_27 rfl rfl ?_
      by_cases hc : v1 = 0
      · rw [if_pos hc] at h
        refine ev_if_ne_f (q := 31) (t0 := 43) dX11_allOf_28 (by decide) rfl hc ?_
        refine ev_aload_n (q := 32) dX11_allOf_31 rfl rfl ?_
        replace h := Option.bind_eq_some_iff.mp h; obtain ⟨r14, hr14, h⟩ := h
        refine ev_gR dX11_allOf_32 fl_X11_40 hr14 rfl ?_
        refine ev_iload_n (q := 36) dX11_allOf_35 rfl rfl ?_
        replace h := Option.bind_eq_some_iff.mp h; obtain ⟨r15, hr15, h⟩ := h
        refine ev_aL dX11_allOf_36 hr15 rfl ?_
        refine ev_bipush (q := 39) (v := (100 : Int32)) dX11_allOf_37 rfl (by decide) ?_
        refine ev_idiv (q := 40) dX11_allOf_39 rfl (by decide) ?_
        refine ev_goto (q := 52) dX11_allOf_40 (by decide) ?_
        exact ev_weak _ (mLe_none (mLe_none (mLe_none mLe_nil))) (e_X11_allOf_J52 (r15 / (100 : Int32)) w1 _ h)
      · rw [if_neg hc] at h
        refine ev_if_ne_t (q := 43) dX11_allOf_28 (by decide) hc ?_
        refine ev_aload_n (q := 44) dX11_allOf_43 rfl rfl ?_
        replace h := Option.bind_eq_some_iff.mp h; obtain ⟨r12, hr12, h⟩ := h
        refine ev_gR dX11_allOf_44 fl_X11_40 hr12 rfl ?_
        refine ev_iload_n (q := 48) dX11_allOf_47 rfl rfl ?_
        replace h := Option.bind_eq_some_iff.mp h; obtain ⟨r13, hr13, h⟩ := h
        refine ev_aL dX11_allOf_48 hr13 rfl ?_
        refine ev_bipush (q := 51) (v := (100 : Int32)) dX11_allOf_49 rfl (by decide) ?_
        refine ev_irem (q := 52) dX11_allOf_51 rfl (by decide) ?_
        exact ev_weak _ (mLe_none (mLe_none (mLe_none mLe_nil))) (e_X11_allOf_J52 (r13 - r13 / (100 : Int32) * (100 : Int32)) w1 _ h)
  · rw [if_neg hc] at h
    refine ev_icmp_lt_f (q := 20) (t0 := 22) dX11_allOf_17 (by decide) rfl hc ?_
    refine ev_iconst (q := 21) (v := (-1 : Int32)) dX11_allOf_20 rfl (by decide) ?_
    cases h
    exact ev_iret dX11_allOf_21 rfl rfl
def f_X11_nightsOf_J37 (s0 : Int32) (w : mW) : Option (Int32 × mW) := some ((s0, w))
set_option maxRecDepth 100000 in
set_option maxHeartbeats 4000000 in
theorem e_X11_nightsOf_J37 {X : mXs} (s0 : Int32) (w : mW) (res : Int32 × mW) (h : f_X11_nightsOf_J37 s0 w = some res) : mEv X M_X11_nightsOf 6 (some (vi res.1)) res.2 37 [none, none] [vi s0] w := by
  unfold f_X11_nightsOf_J37 at h
  cases h
  exact ev_iret dX11_nightsOf_37 rfl rfl
def f_X11_nightsOf (o : Nat) (w : mW) : Option (Int32 × mW) := Option.bind (kO w (some o) 11) fun _ => Option.bind (f_X11_layLeast o  w) fun w1 => Option.bind (gR w1 (some o) 11 19) fun r3 => Option.bind (gI w1 (some o) 11 3) fun r4 => Option.bind (aL w1 r3 (((1 : Int32) <<< (r4 &&& 31)) - (1 : Int32))) fun r5 => if r5 < (1000000 : Int32) then (Option.bind (gI w1 (some o) 11 6) fun r6 => if r5 / (100 : Int32) = 0 then none else f_X11_nightsOf_J37 (r6 / (r5 / (100 : Int32))) w1) else (f_X11_nightsOf_J37 (-1 : Int32) w1)
set_option maxRecDepth 100000 in
set_option maxHeartbeats 4000000 in
theorem met_X11_nightsOf (o : Nat) (w : mW) (res : Int32 × mW) (h : f_X11_nightsOf o w = some res) : mMet M_X11_nightsOf 6 [vr ((some o))] w (some (vi res.1)) res.2 := by
  refine ev_met (n := 1) (by decide) rfl fun X => ?_
  unfold f_X11_nightsOf at h
  show mEv X M_X11_nightsOf 6 _ _ 0 [some (vr ((some o))), none] [] w
  refine ev_aload_n (q := 1) dX11_nightsOf_0 rfl rfl ?_
  replace h := Option.bind_eq_some_iff.mp h; obtain ⟨q2, hq2, h⟩ := h
  obtain ⟨hxq2, fsq2, hkq2⟩ := kO_spec hq2
  cases hxq2
  replace h := Option.bind_eq_some_iff.mp h; obtain ⟨w1, hw1, h⟩ := h
  refine ev_invV (M1 := M_X11_layLeast) (as := []) (fs := fsq2) (ci := 11) dX11_nightsOf_1 rfl tw_1135 cal_X11_layLeast tw_1137 tw_50 (by decide) rfl rfl (Nat.le_of_ble_eq_true rfl) hkq2 rfl (met_X11_layLeast o  w _ hw1) ?_
  refine ev_aload_n (q := 5) dX11_nightsOf_4 rfl rfl ?_
  replace h := Option.bind_eq_some_iff.mp h; obtain ⟨r3, hr3, h⟩ := h
  refine ev_gR dX11_nightsOf_5 fl_X11_40 hr3 rfl ?_
  refine ev_iconst (q := 9) (v := (1 : Int32)) dX11_nightsOf_8 rfl (by decide) ?_
  refine ev_aload_n (q := 10) dX11_nightsOf_9 rfl rfl ?_
  replace h := Option.bind_eq_some_iff.mp h; obtain ⟨r4, hr4, h⟩ := h
  refine ev_gI dX11_nightsOf_10 fl_X11_116 hr4 rfl ?_
  refine ev_ishl (q := 14) dX11_nightsOf_13 rfl ?_
  refine ev_iconst (q := 15) (v := (1 : Int32)) dX11_nightsOf_14 rfl (by decide) ?_
  refine ev_isub (q := 16) dX11_nightsOf_15 rfl ?_
  replace h := Option.bind_eq_some_iff.mp h; obtain ⟨r5, hr5, h⟩ := h
  refine ev_aL dX11_nightsOf_16 hr5 rfl ?_
  refine ev_istore_n (q := 18) dX11_nightsOf_17 rfl (by decide) ?_
  refine ev_iload_n (q := 19) dX11_nightsOf_18 rfl rfl ?_
  refine ev_ldc (q := 21) (v := (1000000 : Int32)) dX11_nightsOf_19 rfl tw_1139 ?_
  by_cases hc : r5 < (1000000 : Int32)
  · rw [if_pos hc] at h
    refine ev_icmp_lt_t (q := 28) dX11_nightsOf_21 (by decide) hc ?_
    refine ev_aload_n (q := 29) dX11_nightsOf_28 rfl rfl ?_
    replace h := Option.bind_eq_some_iff.mp h; obtain ⟨r6, hr6, h⟩ := h
    refine ev_gI dX11_nightsOf_29 fl_X11_125 hr6 rfl ?_
    refine ev_iload_n (q := 33) dX11_nightsOf_32 rfl rfl ?_
    refine ev_bipush (q := 35) (v := (100 : Int32)) dX11_nightsOf_33 rfl (by decide) ?_
    refine ev_idiv (q := 36) dX11_nightsOf_35 rfl (by decide) ?_
    split at h
    · cases h
    rename_i h0
    refine ev_idiv (q := 37) dX11_nightsOf_36 rfl h0 ?_
    exact ev_weak _ (mLe_none (mLe_none mLe_nil)) (e_X11_nightsOf_J37 (r6 / (r5 / (100 : Int32))) w1 _ h)
  · rw [if_neg hc] at h
    refine ev_icmp_lt_f (q := 24) (t0 := 28) dX11_nightsOf_21 (by decide) rfl hc ?_
    refine ev_iconst (q := 25) (v := (-1 : Int32)) dX11_nightsOf_24 rfl (by decide) ?_
    refine ev_goto (q := 37) dX11_nightsOf_25 (by decide) ?_
    exact ev_weak _ (mLe_none (mLe_none mLe_nil)) (e_X11_nightsOf_J37 (-1 : Int32) w1 _ h)
