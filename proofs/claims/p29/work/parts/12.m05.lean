def f_X10_settle_L40 (o : Nat) : Nat → Int32 → mW → Option (mW)
  | 0, _, _ => none
  | n + 1, v1, w => Option.bind (gI w (some o) 10 8) fun r1 => if r1 ≤ v1 then (some (w)) else (Option.bind (gR w (some o) 10 2) fun r2 => Option.bind (rN w r2) fun r3 => if r3 ≤ v1 then (some (w)) else (Option.bind (gR w (some o) 10 2) fun r4 => Option.bind (gR w (some o) 10 1) fun r5 => Option.bind (gR w r5 5 1) fun r6 => Option.bind (f_X10_at r6 v1 w) fun r7 => Option.bind (f_X10_tosserOf r7 w) fun r8 => Option.bind (rS r8.2 r4 v1 r8.1) fun w9 => (f_X10_settle_L40 o n) (v1 + (1 : Int32)) w9))
set_option maxRecDepth 100000 in
set_option maxHeartbeats 4000000 in
theorem e_X10_settle_L40 {X : mXs} {r : Option mV} {w' : mW} (P : (mW) → Prop) (o : Nat) (hexit : ∀ y, P y → mEv X M_X10_settle 5 r w' 83 [none, none] [] y) : ∀ (n : Nat) (v1 : Int32) (w : mW) (e : mW), f_X10_settle_L40 o n v1 w = some e → P e → mEv X M_X10_settle 5 r w' 40 [some (vr ((some o))), some (vi v1)] [] w := by
  intro n
  induction n with
  | zero =>
    intro v1 w e h hP
    rw [f_X10_settle_L40] at h
    cases h
  | succ n hk =>
    intro v1 w e h hP
    rw [f_X10_settle_L40] at h
    refine ev_iload_n (q := 41) dX10_settle_40 rfl rfl ?_
    refine ev_aload_n (q := 42) dX10_settle_41 rfl rfl ?_
    replace h := Option.bind_eq_some_iff.mp h; obtain ⟨r1, hr1, h⟩ := h
    refine ev_gI dX10_settle_42 fl_X10_197 hr1 rfl ?_
    by_cases hc : r1 ≤ v1
    · rw [if_pos hc] at h
      refine ev_icmp_ge_t (q := 83) dX10_settle_45 (by decide) hc ?_
      cases h
      exact ev_weak _ (mLe_none (mLe_none mLe_nil)) (hexit _ hP)
    · rw [if_neg hc] at h
      refine ev_icmp_ge_f (q := 48) (t0 := 83) dX10_settle_45 (by decide) rfl hc ?_
      refine ev_iload_n (q := 49) dX10_settle_48 rfl rfl ?_
      refine ev_aload_n (q := 50) dX10_settle_49 rfl rfl ?_
      replace h := Option.bind_eq_some_iff.mp h; obtain ⟨r2, hr2, h⟩ := h
      refine ev_gR dX10_settle_50 fl_X10_25 hr2 rfl ?_
      replace h := Option.bind_eq_some_iff.mp h; obtain ⟨r3, hr3, h⟩ := h
      refine ev_rN dX10_settle_53 hr3 rfl ?_
      by_cases hc : r3 ≤ v1
      · rw [if_pos hc] at h
        refine ev_icmp_ge_t (q := 83) dX10_settle_54 (by decide) hc ?_
        cases h
        exact ev_weak _ (mLe_none (mLe_none mLe_nil)) (hexit _ hP)
      · rw [if_neg hc] at h
        refine ev_icmp_ge_f (q := 57) (t0 := 83) dX10_settle_54 (by decide) rfl hc ?_
        refine ev_aload_n (q := 58) dX10_settle_57 rfl rfl ?_
        replace h := Option.bind_eq_some_iff.mp h; obtain ⟨r4, hr4, h⟩ := h
        refine ev_gR dX10_settle_58 fl_X10_25 hr4 rfl ?_
        refine ev_iload_n (q := 62) dX10_settle_61 rfl rfl ?_
        refine ev_aload_n (q := 63) dX10_settle_62 rfl rfl ?_
        replace h := Option.bind_eq_some_iff.mp h; obtain ⟨r5, hr5, h⟩ := h
        refine ev_gR dX10_settle_63 fl_X10_19 hr5 rfl ?_
        replace h := Option.bind_eq_some_iff.mp h; obtain ⟨r6, hr6, h⟩ := h
        refine ev_gR dX10_settle_66 fl_X10_271 hr6 rfl ?_
        refine ev_iload_n (q := 70) dX10_settle_69 rfl rfl ?_
        replace h := Option.bind_eq_some_iff.mp h; obtain ⟨r7, hr7, h⟩ := h
        refine ev_invS (M1 := M_X10_at) (as := [vr r6, vi v1]) dX10_settle_70 rfl tw_406 cal_X10_at tw_252 (by decide) rfl rfl (Nat.le_of_ble_eq_true rfl) (met_X10_at r6 v1 w _ hr7) ?_
        replace h := Option.bind_eq_some_iff.mp h; obtain ⟨r8, hr8, h⟩ := h
        refine ev_invS (M1 := M_X10_tosserOf) (as := [vi r7]) dX10_settle_73 rfl tw_407 cal_X10_tosserOf tw_408 (by decide) rfl rfl (Nat.le_of_ble_eq_true rfl) (met_X10_tosserOf r7 w _ hr8) ?_
        replace h := Option.bind_eq_some_iff.mp h; obtain ⟨w9, hw9, h⟩ := h
        refine ev_rS dX10_settle_76 tw_739 tw_740 tw_741 tw_742 hw9 rfl ?_
        refine ev_iinc (q := 80) (v := v1 + (1 : Int32)) dX10_settle_77 rfl (by decide) rfl (by rfl) ?_
        refine ev_goto (q := 40) dX10_settle_80 (by decide) ?_
        exact ev_weak _ (mLe_some (mLe_some mLe_nil)) (hk (v1 + (1 : Int32)) w9 _ h hP)
def f_X10_settle (o : Nat) (w : mW) : Option (mW) := Option.bind (gR w (some o) 10 1) fun r10 => Option.bind (gI w r10 5 4) fun r11 => Option.bind (pI w (some o) 10 7 r11) fun w12 => Option.bind (gR w12 (some o) 10 1) fun r13 => Option.bind (gI w12 r13 5 5) fun r14 => Option.bind (pI w12 (some o) 10 8 r14) fun w15 => Option.bind (pZ w15 (some o) 10 10 (0 : Int32)) fun w16 => Option.bind (gR w16 (some o) 10 3) fun r17 => Option.bind (gR w16 (some o) 10 1) fun r18 => Option.bind (kO w16 r17 2) fun q20 => Option.bind (f_X2_begin q20 r18 w16) fun w19 => Option.bind (f_X10_settle_L40 o mFuel (0 : Int32) w19) fun e21 => some (e21)
set_option maxRecDepth 100000 in
set_option maxHeartbeats 4000000 in
theorem met_X10_settle (o : Nat) (w : mW) (res : mW) (h : f_X10_settle o w = some res) : mMet M_X10_settle 5 [vr ((some o))] w none res := by
  refine ev_met (n := 1) (by decide) rfl fun X => ?_
  unfold f_X10_settle at h
  show mEv X M_X10_settle 5 _ _ 0 [some (vr ((some o))), none] [] w
  refine ev_aload_n (q := 1) dX10_settle_0 rfl rfl ?_
  refine ev_aload_n (q := 2) dX10_settle_1 rfl rfl ?_
  replace h := Option.bind_eq_some_iff.mp h; obtain ⟨r10, hr10, h⟩ := h
  refine ev_gR dX10_settle_2 fl_X10_19 hr10 rfl ?_
  replace h := Option.bind_eq_some_iff.mp h; obtain ⟨r11, hr11, h⟩ := h
  refine ev_gI dX10_settle_5 fl_X10_262 hr11 rfl ?_
  replace h := Option.bind_eq_some_iff.mp h; obtain ⟨w12, hw12, h⟩ := h
  refine ev_pI dX10_settle_8 fp_X10_72 hw12 rfl ?_
  refine ev_aload_n (q := 12) dX10_settle_11 rfl rfl ?_
  refine ev_aload_n (q := 13) dX10_settle_12 rfl rfl ?_
  replace h := Option.bind_eq_some_iff.mp h; obtain ⟨r13, hr13, h⟩ := h
  refine ev_gR dX10_settle_13 fl_X10_19 hr13 rfl ?_
  replace h := Option.bind_eq_some_iff.mp h; obtain ⟨r14, hr14, h⟩ := h
  refine ev_gI dX10_settle_16 fl_X10_265 hr14 rfl ?_
  replace h := Option.bind_eq_some_iff.mp h; obtain ⟨w15, hw15, h⟩ := h
  refine ev_pI dX10_settle_19 fp_X10_197 hw15 rfl ?_
  refine ev_aload_n (q := 23) dX10_settle_22 rfl rfl ?_
  refine ev_iconst (q := 24) (v := (0 : Int32)) dX10_settle_23 rfl (by decide) ?_
  replace h := Option.bind_eq_some_iff.mp h; obtain ⟨w16, hw16, h⟩ := h
  refine ev_pZ dX10_settle_24 fp_X10_223 hw16 rfl ?_
  refine ev_aload_n (q := 28) dX10_settle_27 rfl rfl ?_
  replace h := Option.bind_eq_some_iff.mp h; obtain ⟨r17, hr17, h⟩ := h
  refine ev_gR dX10_settle_28 fl_X10_32 hr17 rfl ?_
  refine ev_aload_n (q := 32) dX10_settle_31 rfl rfl ?_
  replace h := Option.bind_eq_some_iff.mp h; obtain ⟨r18, hr18, h⟩ := h
  refine ev_gR dX10_settle_32 fl_X10_19 hr18 rfl ?_
  replace h := Option.bind_eq_some_iff.mp h; obtain ⟨q20, hq20, h⟩ := h
  obtain ⟨hxq20, fsq20, hkq20⟩ := kO_spec hq20
  subst hxq20
  replace h := Option.bind_eq_some_iff.mp h; obtain ⟨w19, hw19, h⟩ := h
  refine ev_invV (M1 := M_X2_begin) (as := [vr r18]) (fs := fsq20) (ci := 2) dX10_settle_35 rfl tw_395 cal_X2_begin tw_396 tw_397 (by decide) rfl rfl (Nat.le_of_ble_eq_true rfl) hkq20 rfl (met_X2_begin q20 r18 w16 _ hw19) ?_
  refine ev_iconst (q := 39) (v := (0 : Int32)) dX10_settle_38 rfl (by decide) ?_
  refine ev_istore_n (q := 40) dX10_settle_39 rfl (by decide) ?_
  replace h := Option.bind_eq_some_iff.mp h; obtain ⟨e21, he21, h⟩ := h
  refine ev_weak _ (mLe_some (mLe_some mLe_nil)) (e_X10_settle_L40 (fun z => e21 = z) o (fun e21q hq => ?_) mFuel (0 : Int32) w19 _ he21 rfl)
  subst hq
  cases h
  exact ev_vret dX10_settle_83 rfl
def f_X5_takes (o : Nat) (v1 : Int32) (w : mW) : Option (Int32 × mW) := Option.bind (gI w (some o) 5 7) fun r1 => if r1 = 0 then (Option.bind (kO w (some o) 5) fun _ => Option.bind (f_X5_takesRow o (v1 - (48 : Int32)) w) fun r2 => if r2.1 = 0 ∨ r2.1 = 1 then some ((r2.1, r2.2)) else none) else (if r1 = 1 then (Option.bind (kO w (some o) 5) fun _ => Option.bind (f_X5_takesColumn o (v1 - (48 : Int32)) w) fun r4 => if r4.1 = 0 ∨ r4.1 = 1 then some ((r4.1, r4.2)) else none) else (if r1 = 2 then (Option.bind (kO w (some o) 5) fun _ => Option.bind (f_X5_takesAfterSleeper o v1 w) fun r6 => if r6.1 = 0 ∨ r6.1 = 1 then some ((r6.1, r6.2)) else none) else (if r1 = 3 then (Option.bind (kO w (some o) 5) fun _ => Option.bind (f_X5_takesKind o v1 w) fun r8 => if r8.1 = 0 ∨ r8.1 = 1 then some ((r8.1, r8.2)) else none) else (if r1 = 4 then (Option.bind (kO w (some o) 5) fun _ => Option.bind (f_X5_takesSouth o (v1 - (48 : Int32)) w) fun r10 => if r10.1 = 0 ∨ r10.1 = 1 then some ((r10.1, r10.2)) else none) else (if r1 = 5 then (Option.bind (kO w (some o) 5) fun _ => Option.bind (f_X5_takesEast o (v1 - (48 : Int32)) w) fun r12 => if r12.1 = 0 ∨ r12.1 = 1 then some ((r12.1, r12.2)) else none) else (Option.bind (kO w (some o) 5) fun _ => Option.bind (f_X5_takesAfterTosser o v1 w) fun r14 => if r14.1 = 0 ∨ r14.1 = 1 then some ((r14.1, r14.2)) else none))))))
set_option maxRecDepth 100000 in
set_option maxHeartbeats 4000000 in
theorem met_X5_takes (o : Nat) (v1 : Int32) (w : mW) (res : Int32 × mW) (h : f_X5_takes o v1 w = some res) : mMet M_X5_takes 5 [vr ((some o)), vi v1] w (some (vi res.1)) res.2 := by
  refine ev_met (n := 0) (by decide) rfl fun X => ?_
  unfold f_X5_takes at h
  show mEv X M_X5_takes 5 _ _ 0 [some (vr ((some o))), some (vi v1)] [] w
  refine ev_aload_n (q := 1) dX5_takes_0 rfl rfl ?_
  replace h := Option.bind_eq_some_iff.mp h; obtain ⟨r1, hr1, h⟩ := h
  refine ev_gI dX5_takes_1 fl_X5_31 hr1 rfl ?_
  by_cases hc0 : r1 = 0
  · rw [if_pos hc0] at h
    refine ev_table_in (q := 44) (off := 40) dX5_takes_4 (by rw [hc0]; decide) (by rw [hc0]; decide) (by rw [hc0]; rfl) (by decide) ?_
    refine ev_aload_n (q := 45) dX5_takes_44 rfl rfl ?_
    refine ev_iload_n (q := 46) dX5_takes_45 rfl rfl ?_
    refine ev_bipush (q := 48) (v := (48 : Int32)) dX5_takes_46 rfl (by decide) ?_
    refine ev_isub (q := 49) dX5_takes_48 rfl ?_
    replace h := Option.bind_eq_some_iff.mp h; obtain ⟨q3, hq3, h⟩ := h
    obtain ⟨hxq3, fsq3, hkq3⟩ := kO_spec hq3
    cases hxq3
    replace h := Option.bind_eq_some_iff.mp h; obtain ⟨r2, hr2, h⟩ := h
    refine ev_invV (M1 := M_X5_takesRow) (as := [vi (v1 - (48 : Int32))]) (fs := fsq3) (ci := 5) dX5_takes_49 rfl tw_258 cal_X5_takesRow tw_260 tw_1 (by decide) rfl rfl (Nat.le_of_ble_eq_true rfl) hkq3 rfl (met_X5_takesRow o (v1 - (48 : Int32)) w _ hr2) ?_
    by_cases hz : r2.1 = 0 ∨ r2.1 = 1
    · rw [if_pos hz] at h
      cases h
      exact ev_zret dX5_takes_52 rfl hz
    · rw [if_neg hz] at h
      cases h
  · rw [if_neg hc0] at h
    by_cases hc1 : r1 = 1
    · rw [if_pos hc1] at h
      refine ev_table_in (q := 53) (off := 49) dX5_takes_4 (by rw [hc1]; decide) (by rw [hc1]; decide) (by rw [hc1]; rfl) (by decide) ?_
      refine ev_aload_n (q := 54) dX5_takes_53 rfl rfl ?_
      refine ev_iload_n (q := 55) dX5_takes_54 rfl rfl ?_
      refine ev_bipush (q := 57) (v := (48 : Int32)) dX5_takes_55 rfl (by decide) ?_
      refine ev_isub (q := 58) dX5_takes_57 rfl ?_
      replace h := Option.bind_eq_some_iff.mp h; obtain ⟨q5, hq5, h⟩ := h
      obtain ⟨hxq5, fsq5, hkq5⟩ := kO_spec hq5
      cases hxq5
      replace h := Option.bind_eq_some_iff.mp h; obtain ⟨r4, hr4, h⟩ := h
      refine ev_invV (M1 := M_X5_takesColumn) (as := [vi (v1 - (48 : Int32))]) (fs := fsq5) (ci := 5) dX5_takes_58 rfl tw_262 cal_X5_takesColumn tw_264 tw_2 (by decide) rfl rfl (Nat.le_of_ble_eq_true rfl) hkq5 rfl (met_X5_takesColumn o (v1 - (48 : Int32)) w _ hr4) ?_
      by_cases hz : r4.1 = 0 ∨ r4.1 = 1
      · rw [if_pos hz] at h
        cases h
        exact ev_zret dX5_takes_61 rfl hz
      · rw [if_neg hz] at h
        cases h
    · rw [if_neg hc1] at h
      by_cases hc2 : r1 = 2
      · rw [if_pos hc2] at h
        refine ev_table_in (q := 62) (off := 58) dX5_takes_4 (by rw [hc2]; decide) (by rw [hc2]; decide) (by rw [hc2]; rfl) (by decide) ?_
        refine ev_aload_n (q := 63) dX5_takes_62 rfl rfl ?_
        refine ev_iload_n (q := 64) dX5_takes_63 rfl rfl ?_
        replace h := Option.bind_eq_some_iff.mp h; obtain ⟨q7, hq7, h⟩ := h
        obtain ⟨hxq7, fsq7, hkq7⟩ := kO_spec hq7
        cases hxq7
        replace h := Option.bind_eq_some_iff.mp h; obtain ⟨r6, hr6, h⟩ := h
        refine ev_invV (M1 := M_X5_takesAfterSleeper) (as := [vi v1]) (fs := fsq7) (ci := 5) dX5_takes_64 rfl tw_272 cal_X5_takesAfterSleeper tw_274 tw_3 (by decide) rfl rfl (Nat.le_of_ble_eq_true rfl) hkq7 rfl (met_X5_takesAfterSleeper o v1 w _ hr6) ?_
        by_cases hz : r6.1 = 0 ∨ r6.1 = 1
        · rw [if_pos hz] at h
          cases h
          exact ev_zret dX5_takes_67 rfl hz
        · rw [if_neg hz] at h
          cases h
      · rw [if_neg hc2] at h
        by_cases hc3 : r1 = 3
        · rw [if_pos hc3] at h
          refine ev_table_in (q := 68) (off := 64) dX5_takes_4 (by rw [hc3]; decide) (by rw [hc3]; decide) (by rw [hc3]; rfl) (by decide) ?_
          refine ev_aload_n (q := 69) dX5_takes_68 rfl rfl ?_
          refine ev_iload_n (q := 70) dX5_takes_69 rfl rfl ?_
          replace h := Option.bind_eq_some_iff.mp h; obtain ⟨q9, hq9, h⟩ := h
          obtain ⟨hxq9, fsq9, hkq9⟩ := kO_spec hq9
          cases hxq9
          replace h := Option.bind_eq_some_iff.mp h; obtain ⟨r8, hr8, h⟩ := h
          refine ev_invV (M1 := M_X5_takesKind) (as := [vi v1]) (fs := fsq9) (ci := 5) dX5_takes_70 rfl tw_276 cal_X5_takesKind tw_278 tw_4 (by decide) rfl rfl (Nat.le_of_ble_eq_true rfl) hkq9 rfl (met_X5_takesKind o v1 w _ hr8) ?_
          by_cases hz : r8.1 = 0 ∨ r8.1 = 1
          · rw [if_pos hz] at h
            cases h
            exact ev_zret dX5_takes_73 rfl hz
          · rw [if_neg hz] at h
            cases h
        · rw [if_neg hc3] at h
          by_cases hc4 : r1 = 4
          · rw [if_pos hc4] at h
            refine ev_table_in (q := 74) (off := 70) dX5_takes_4 (by rw [hc4]; decide) (by rw [hc4]; decide) (by rw [hc4]; rfl) (by decide) ?_
            refine ev_aload_n (q := 75) dX5_takes_74 rfl rfl ?_
            refine ev_iload_n (q := 76) dX5_takes_75 rfl rfl ?_
            refine ev_bipush (q := 78) (v := (48 : Int32)) dX5_takes_76 rfl (by decide) ?_
            refine ev_isub (q := 79) dX5_takes_78 rfl ?_
            replace h := Option.bind_eq_some_iff.mp h; obtain ⟨q11, hq11, h⟩ := h
            obtain ⟨hxq11, fsq11, hkq11⟩ := kO_spec hq11
            cases hxq11
            replace h := Option.bind_eq_some_iff.mp h; obtain ⟨r10, hr10, h⟩ := h
            refine ev_invV (M1 := M_X5_takesSouth) (as := [vi (v1 - (48 : Int32))]) (fs := fsq11) (ci := 5) dX5_takes_79 rfl tw_367 cal_X5_takesSouth tw_369 tw_5 (by decide) rfl rfl (Nat.le_of_ble_eq_true rfl) hkq11 rfl (met_X5_takesSouth o (v1 - (48 : Int32)) w _ hr10) ?_
            by_cases hz : r10.1 = 0 ∨ r10.1 = 1
            · rw [if_pos hz] at h
              cases h
              exact ev_zret dX5_takes_82 rfl hz
            · rw [if_neg hz] at h
              cases h
          · rw [if_neg hc4] at h
            by_cases hc5 : r1 = 5
            · rw [if_pos hc5] at h
              refine ev_table_in (q := 83) (off := 79) dX5_takes_4 (by rw [hc5]; decide) (by rw [hc5]; decide) (by rw [hc5]; rfl) (by decide) ?_
              refine ev_aload_n (q := 84) dX5_takes_83 rfl rfl ?_
              refine ev_iload_n (q := 85) dX5_takes_84 rfl rfl ?_
              refine ev_bipush (q := 87) (v := (48 : Int32)) dX5_takes_85 rfl (by decide) ?_
              refine ev_isub (q := 88) dX5_takes_87 rfl ?_
              replace h := Option.bind_eq_some_iff.mp h; obtain ⟨q13, hq13, h⟩ := h
              obtain ⟨hxq13, fsq13, hkq13⟩ := kO_spec hq13
              cases hxq13
              replace h := Option.bind_eq_some_iff.mp h; obtain ⟨r12, hr12, h⟩ := h
              refine ev_invV (M1 := M_X5_takesEast) (as := [vi (v1 - (48 : Int32))]) (fs := fsq13) (ci := 5) dX5_takes_88 rfl tw_374 cal_X5_takesEast tw_376 tw_6 (by decide) rfl rfl (Nat.le_of_ble_eq_true rfl) hkq13 rfl (met_X5_takesEast o (v1 - (48 : Int32)) w _ hr12) ?_
              by_cases hz : r12.1 = 0 ∨ r12.1 = 1
              · rw [if_pos hz] at h
                cases h
                exact ev_zret dX5_takes_91 rfl hz
              · rw [if_neg hz] at h
                cases h
            · rw [if_neg hc5] at h
              refine ev_table_out (q := 92) dX5_takes_4 (by have z0 := mNe (z := 0) (by decide) hc0; have z1 := mNe (z := 1) (by decide) hc1; have z2 := mNe (z := 2) (by decide) hc2; have z3 := mNe (z := 3) (by decide) hc3; have z4 := mNe (z := 4) (by decide) hc4; have z5 := mNe (z := 5) (by decide) hc5; omega) (by decide) ?_
              refine ev_aload_n (q := 93) dX5_takes_92 rfl rfl ?_
              refine ev_iload_n (q := 94) dX5_takes_93 rfl rfl ?_
              replace h := Option.bind_eq_some_iff.mp h; obtain ⟨q15, hq15, h⟩ := h
              obtain ⟨hxq15, fsq15, hkq15⟩ := kO_spec hq15
              cases hxq15
              replace h := Option.bind_eq_some_iff.mp h; obtain ⟨r14, hr14, h⟩ := h
              refine ev_invV (M1 := M_X5_takesAfterTosser) (as := [vi v1]) (fs := fsq15) (ci := 5) dX5_takes_94 rfl tw_378 cal_X5_takesAfterTosser tw_380 tw_7 (by decide) rfl rfl (Nat.le_of_ble_eq_true rfl) hkq15 rfl (met_X5_takesAfterTosser o v1 w _ hr14) ?_
              by_cases hz : r14.1 = 0 ∨ r14.1 = 1
              · rw [if_pos hz] at h
                cases h
                exact ev_zret dX5_takes_97 rfl hz
              · rw [if_neg hz] at h
                cases h
def f_X10_sleeper (o : Nat) (v1 : Int32) (v2 : Int32) (w : mW) : Option (Int32 × mW) := Option.bind (kO w (some o) 10) fun _ => Option.bind (f_X10_isSleeper o v1 w) fun r1 => if r1 = 0 then (some (((-101 : Int32), w))) else (if v2 = 0 then (Option.bind (gR w (some o) 10 3) fun r3 => Option.bind (gR w r3 2 0) fun r4 => Option.bind (f_X10_at r4 v1 w) fun r5 => some ((r5, w))) else (if v2 = 1 then (Option.bind (gR w (some o) 10 3) fun r6 => Option.bind (gI w r6 2 7) fun r7 => some (((r7 >>> (v1 &&& 31)) &&& (1 : Int32), w))) else (if v2 = 2 then (Option.bind (gR w (some o) 10 3) fun r8 => Option.bind (gR w r8 2 1) fun r9 => Option.bind (f_X10_at r9 v1 w) fun r10 => some ((r10, w))) else (if v2 = 3 then (Option.bind (gR w (some o) 10 3) fun r11 => Option.bind (gR w r11 2 2) fun r12 => Option.bind (f_X10_at r12 v1 w) fun r13 => some ((r13, w))) else (if v2 = 4 then (Option.bind (kO w (some o) 10) fun _ => Option.bind (f_X10_bestPlaceFor o v1 w) fun r14 => some ((r14.1, r14.2))) else (some (((-102 : Int32), w))))))))
set_option maxRecDepth 100000 in
set_option maxHeartbeats 4000000 in
theorem met_X10_sleeper (o : Nat) (v1 : Int32) (v2 : Int32) (w : mW) (res : Int32 × mW) (h : f_X10_sleeper o v1 v2 w = some res) : mMet M_X10_sleeper 6 [vr ((some o)), vi v1, vi v2] w (some (vi res.1)) res.2 := by
  refine ev_met (n := 0) (by decide) rfl fun X => ?_
  unfold f_X10_sleeper at h
  show mEv X M_X10_sleeper 6 _ _ 0 [some (vr ((some o))), some (vi v1), some (vi v2)] [] w
  refine ev_aload_n (q := 1) dX10_sleeper_0 rfl rfl ?_
  refine ev_iload_n (q := 2) dX10_sleeper_1 rfl rfl ?_
  replace h := Option.bind_eq_some_iff.mp h; obtain ⟨q2, hq2, h⟩ := h
  obtain ⟨hxq2, fsq2, hkq2⟩ := kO_spec hq2
  cases hxq2
  replace h := Option.bind_eq_some_iff.mp h; obtain ⟨r1, hr1, h⟩ := h
  refine ev_invV (M1 := M_X10_isSleeper) (as := [vi v1]) (fs := fsq2) (ci := 10) dX10_sleeper_2 rfl tw_448 cal_X10_isSleeper tw_450 tw_9 (by decide) rfl rfl (Nat.le_of_ble_eq_true rfl) hkq2 rfl (met_X10_isSleeper o v1 w _ hr1) ?_
  by_cases hc : r1 = 0
  · rw [if_pos hc] at h
    refine ev_if_ne_f (q := 8) (t0 := 11) dX10_sleeper_5 (by decide) rfl hc ?_
    refine ev_bipush (q := 10) (v := (-101 : Int32)) dX10_sleeper_8 rfl (by decide) ?_
    cases h
    exact ev_iret dX10_sleeper_10 rfl rfl
  · rw [if_neg hc] at h
    refine ev_if_ne_t (q := 11) dX10_sleeper_5 (by decide) hc ?_
    refine ev_iload_n (q := 12) dX10_sleeper_11 rfl rfl ?_
    by_cases hc0 : v2 = 0
    · rw [if_pos hc0] at h
      refine ev_table_in (q := 48) (off := 36) dX10_sleeper_12 (by rw [hc0]; decide) (by rw [hc0]; decide) (by rw [hc0]; rfl) (by decide) ?_
      refine ev_aload_n (q := 49) dX10_sleeper_48 rfl rfl ?_
      replace h := Option.bind_eq_some_iff.mp h; obtain ⟨r3, hr3, h⟩ := h
      refine ev_gR dX10_sleeper_49 fl_X10_32 hr3 rfl ?_
      replace h := Option.bind_eq_some_iff.mp h; obtain ⟨r4, hr4, h⟩ := h
      refine ev_gR dX10_sleeper_52 fl_X10_79 hr4 rfl ?_
      refine ev_iload_n (q := 56) dX10_sleeper_55 rfl rfl ?_
      replace h := Option.bind_eq_some_iff.mp h; obtain ⟨r5, hr5, h⟩ := h
      refine ev_invS (M1 := M_X10_at) (as := [vr r4, vi v1]) dX10_sleeper_56 rfl tw_406 cal_X10_at tw_252 (by decide) rfl rfl (Nat.le_of_ble_eq_true rfl) (met_X10_at r4 v1 w _ hr5) ?_
      cases h
      exact ev_iret dX10_sleeper_59 rfl rfl
    · rw [if_neg hc0] at h
      by_cases hc1 : v2 = 1
      · rw [if_pos hc1] at h
        refine ev_table_in (q := 60) (off := 48) dX10_sleeper_12 (by rw [hc1]; decide) (by rw [hc1]; decide) (by rw [hc1]; rfl) (by decide) ?_
        refine ev_aload_n (q := 61) dX10_sleeper_60 rfl rfl ?_
        replace h := Option.bind_eq_some_iff.mp h; obtain ⟨r6, hr6, h⟩ := h
        refine ev_gR dX10_sleeper_61 fl_X10_32 hr6 rfl ?_
        replace h := Option.bind_eq_some_iff.mp h; obtain ⟨r7, hr7, h⟩ := h
        refine ev_gI dX10_sleeper_64 fl_X10_86 hr7 rfl ?_
        refine ev_iload_n (q := 68) dX10_sleeper_67 rfl rfl ?_
        refine ev_ishr (q := 69) dX10_sleeper_68 rfl ?_
        refine ev_iconst (q := 70) (v := (1 : Int32)) dX10_sleeper_69 rfl (by decide) ?_
        refine ev_iand (q := 71) dX10_sleeper_70 rfl ?_
        cases h
        exact ev_iret dX10_sleeper_71 rfl rfl
      · rw [if_neg hc1] at h
        by_cases hc2 : v2 = 2
        · rw [if_pos hc2] at h
          refine ev_table_in (q := 72) (off := 60) dX10_sleeper_12 (by rw [hc2]; decide) (by rw [hc2]; decide) (by rw [hc2]; rfl) (by decide) ?_
          refine ev_aload_n (q := 73) dX10_sleeper_72 rfl rfl ?_
          replace h := Option.bind_eq_some_iff.mp h; obtain ⟨r8, hr8, h⟩ := h
          refine ev_gR dX10_sleeper_73 fl_X10_32 hr8 rfl ?_
          replace h := Option.bind_eq_some_iff.mp h; obtain ⟨r9, hr9, h⟩ := h
          refine ev_gR dX10_sleeper_76 fl_X10_89 hr9 rfl ?_
          refine ev_iload_n (q := 80) dX10_sleeper_79 rfl rfl ?_
          replace h := Option.bind_eq_some_iff.mp h; obtain ⟨r10, hr10, h⟩ := h
          refine ev_invS (M1 := M_X10_at) (as := [vr r9, vi v1]) dX10_sleeper_80 rfl tw_406 cal_X10_at tw_252 (by decide) rfl rfl (Nat.le_of_ble_eq_true rfl) (met_X10_at r9 v1 w _ hr10) ?_
          cases h
          exact ev_iret dX10_sleeper_83 rfl rfl
        · rw [if_neg hc2] at h
          by_cases hc3 : v2 = 3
          · rw [if_pos hc3] at h
            refine ev_table_in (q := 84) (off := 72) dX10_sleeper_12 (by rw [hc3]; decide) (by rw [hc3]; decide) (by rw [hc3]; rfl) (by decide) ?_
            refine ev_aload_n (q := 85) dX10_sleeper_84 rfl rfl ?_
            replace h := Option.bind_eq_some_iff.mp h; obtain ⟨r11, hr11, h⟩ := h
            refine ev_gR dX10_sleeper_85 fl_X10_32 hr11 rfl ?_
            replace h := Option.bind_eq_some_iff.mp h; obtain ⟨r12, hr12, h⟩ := h
            refine ev_gR dX10_sleeper_88 fl_X10_92 hr12 rfl ?_
            refine ev_iload_n (q := 92) dX10_sleeper_91 rfl rfl ?_
            replace h := Option.bind_eq_some_iff.mp h; obtain ⟨r13, hr13, h⟩ := h
            refine ev_invS (M1 := M_X10_at) (as := [vr r12, vi v1]) dX10_sleeper_92 rfl tw_406 cal_X10_at tw_252 (by decide) rfl rfl (Nat.le_of_ble_eq_true rfl) (met_X10_at r12 v1 w _ hr13) ?_
            cases h
            exact ev_iret dX10_sleeper_95 rfl rfl
          · rw [if_neg hc3] at h
            by_cases hc4 : v2 = 4
            · rw [if_pos hc4] at h
              refine ev_table_in (q := 96) (off := 84) dX10_sleeper_12 (by rw [hc4]; decide) (by rw [hc4]; decide) (by rw [hc4]; rfl) (by decide) ?_
              refine ev_aload_n (q := 97) dX10_sleeper_96 rfl rfl ?_
              refine ev_iload_n (q := 98) dX10_sleeper_97 rfl rfl ?_
              replace h := Option.bind_eq_some_iff.mp h; obtain ⟨q15, hq15, h⟩ := h
              obtain ⟨hxq15, fsq15, hkq15⟩ := kO_spec hq15
              cases hxq15
              replace h := Option.bind_eq_some_iff.mp h; obtain ⟨r14, hr14, h⟩ := h
              refine ev_invV (M1 := M_X10_bestPlaceFor) (as := [vi v1]) (fs := fsq15) (ci := 10) dX10_sleeper_98 rfl tw_452 cal_X10_bestPlaceFor tw_454 tw_10 (by decide) rfl rfl (Nat.le_of_ble_eq_true rfl) hkq15 rfl (met_X10_bestPlaceFor o v1 w _ hr14) ?_
              cases h
              exact ev_iret dX10_sleeper_101 rfl rfl
            · rw [if_neg hc4] at h
              refine ev_table_out (q := 102) dX10_sleeper_12 (by have z0 := mNe (z := 0) (by decide) hc0; have z1 := mNe (z := 1) (by decide) hc1; have z2 := mNe (z := 2) (by decide) hc2; have z3 := mNe (z := 3) (by decide) hc3; have z4 := mNe (z := 4) (by decide) hc4; omega) (by decide) ?_
              refine ev_bipush (q := 104) (v := (-102 : Int32)) dX10_sleeper_102 rfl (by decide) ?_
              cases h
              exact ev_iret dX10_sleeper_104 rfl rfl
def f_X10_tosser (o : Nat) (v1 : Int32) (v2 : Int32) (w : mW) : Option (Int32) := Option.bind (kO w (some o) 10) fun _ => Option.bind (f_X10_tosserAt o v1 w) fun r1 => oC r1 (some ((-101 : Int32))) (fun a3 => if v2 = 0 then (Option.bind (dv_kind (some a3)  w) fun r4 => some (r4)) else (if v2 = 1 then (Option.bind (gR w (some o) 10 3) fun r5 => Option.bind (gR w r5 2 3) fun r6 => Option.bind (f_X10_at r6 v1 w) fun r7 => some (r7)) else (if v2 = 2 then (Option.bind (gR w (some o) 10 3) fun r8 => Option.bind (gR w r8 2 4) fun r9 => Option.bind (f_X10_at r9 v1 w) fun r10 => some (r10)) else (if v2 = 3 then (Option.bind (dv_batter (some a3)  w) fun r11 => some (r11)) else (if v2 = 4 then (Option.bind (kO w (some o) 10) fun _ => Option.bind (f_X10_bestAimOf o v1 w) fun r12 => some (r12)) else (if v2 = 5 then (Option.bind (kO w (some o) 10) fun _ => Option.bind (f_X10_bestAimOf o v1 w) fun r14 => Option.bind (kO w (some o) 10) fun _ => Option.bind (f_X10_freshOf o v1 r14 w) fun r16 => some (r16)) else (if v2 = 6 then (Option.bind (gR w (some o) 10 3) fun r18 => Option.bind (gR w r18 2 6) fun r19 => Option.bind (kO w r19 6) fun q21 => Option.bind (f_X6_turnsOf q21 v1 w) fun r20 => some (r20)) else (if v2 = 7 then (Option.bind (gR w (some o) 10 3) fun r22 => Option.bind (gR w r22 2 6) fun r23 => Option.bind (kO w r23 6) fun q25 => Option.bind (f_X6_turnsOf q25 v1 w) fun r24 => Option.bind (f_X10_tellingAim r24 w) fun r26 => some (r26)) else (if v2 = 8 then (Option.bind (gR w (some o) 10 3) fun r27 => Option.bind (gR w r27 2 5) fun r28 => Option.bind (f_X10_at r28 v1 w) fun r29 => some (r29)) else (some ((-102 : Int32))))))))))))
set_option maxRecDepth 100000 in
set_option maxHeartbeats 4000000 in
theorem met_X10_tosser (o : Nat) (v1 : Int32) (v2 : Int32) (w : mW) (res : Int32) (h : f_X10_tosser o v1 v2 w = some res) : mMet M_X10_tosser 6 [vr ((some o)), vi v1, vi v2] w (some (vi res)) w := by
  refine ev_met (n := 1) (by decide) rfl fun X => ?_
  unfold f_X10_tosser at h
  show mEv X M_X10_tosser 6 _ _ 0 [some (vr ((some o))), some (vi v1), some (vi v2), none] [] w
  refine ev_aload_n (q := 1) dX10_tosser_0 rfl rfl ?_
  refine ev_iload_n (q := 2) dX10_tosser_1 rfl rfl ?_
  replace h := Option.bind_eq_some_iff.mp h; obtain ⟨q2, hq2, h⟩ := h
  obtain ⟨hxq2, fsq2, hkq2⟩ := kO_spec hq2
  cases hxq2
  replace h := Option.bind_eq_some_iff.mp h; obtain ⟨r1, hr1, h⟩ := h
  refine ev_invV (M1 := M_X10_tosserAt) (as := [vi v1]) (fs := fsq2) (ci := 10) dX10_tosser_2 rfl tw_461 cal_X10_tosserAt tw_463 tw_12 (by decide) rfl rfl (Nat.le_of_ble_eq_true rfl) hkq2 rfl (met_X10_tosserAt o v1 w _ hr1) ?_
  refine ev_astore_n (q := 6) dX10_tosser_5 rfl (by decide) ?_
  refine ev_aload_n (q := 7) dX10_tosser_6 rfl rfl ?_
  rcases r1 with _ | a3
  · dsimp only [oC] at h
    refine ev_ifnonnull_f (q := 10) dX10_tosser_7 rfl ?_
    refine ev_bipush (q := 12) (v := (-101 : Int32)) dX10_tosser_10 rfl (by decide) ?_
    cases h
    exact ev_iret dX10_tosser_12 rfl rfl
  · dsimp only [oC] at h
    refine ev_ifnonnull_t (q := 13) dX10_tosser_7 (by decide) ?_
    refine ev_iload_n (q := 14) dX10_tosser_13 rfl rfl ?_
    by_cases hc0 : v2 = 0
    · rw [if_pos hc0] at h
      refine ev_table_in (q := 64) (off := 50) dX10_tosser_14 (by rw [hc0]; decide) (by rw [hc0]; decide) (by rw [hc0]; rfl) (by decide) ?_
      refine ev_aload_n (q := 65) dX10_tosser_64 rfl rfl ?_
      replace h := Option.bind_eq_some_iff.mp h; obtain ⟨r4, hr4, h⟩ := h
      refine ev_dv_kind dX10_tosser_65 rfl tw_506 (by decide) (Nat.le_of_ble_eq_true rfl) hr4 ?_
      cases h
      exact ev_iret dX10_tosser_68 rfl rfl
    · rw [if_neg hc0] at h
      by_cases hc1 : v2 = 1
      · rw [if_pos hc1] at h
        refine ev_table_in (q := 69) (off := 55) dX10_tosser_14 (by rw [hc1]; decide) (by rw [hc1]; decide) (by rw [hc1]; rfl) (by decide) ?_
        refine ev_aload_n (q := 70) dX10_tosser_69 rfl rfl ?_
        replace h := Option.bind_eq_some_iff.mp h; obtain ⟨r5, hr5, h⟩ := h
        refine ev_gR dX10_tosser_70 fl_X10_32 hr5 rfl ?_
        replace h := Option.bind_eq_some_iff.mp h; obtain ⟨r6, hr6, h⟩ := h
        refine ev_gR dX10_tosser_73 fl_X10_107 hr6 rfl ?_
        refine ev_iload_n (q := 77) dX10_tosser_76 rfl rfl ?_
        replace h := Option.bind_eq_some_iff.mp h; obtain ⟨r7, hr7, h⟩ := h
        refine ev_invS (M1 := M_X10_at) (as := [vr r6, vi v1]) dX10_tosser_77 rfl tw_406 cal_X10_at tw_252 (by decide) rfl rfl (Nat.le_of_ble_eq_true rfl) (met_X10_at r6 v1 w _ hr7) ?_
        cases h
        exact ev_iret dX10_tosser_80 rfl rfl
      · rw [if_neg hc1] at h
        by_cases hc2 : v2 = 2
        · rw [if_pos hc2] at h
          refine ev_table_in (q := 81) (off := 67) dX10_tosser_14 (by rw [hc2]; decide) (by rw [hc2]; decide) (by rw [hc2]; rfl) (by decide) ?_
          refine ev_aload_n (q := 82) dX10_tosser_81 rfl rfl ?_
          replace h := Option.bind_eq_some_iff.mp h; obtain ⟨r8, hr8, h⟩ := h
          refine ev_gR dX10_tosser_82 fl_X10_32 hr8 rfl ?_
          replace h := Option.bind_eq_some_iff.mp h; obtain ⟨r9, hr9, h⟩ := h
          refine ev_gR dX10_tosser_85 fl_X10_110 hr9 rfl ?_
          refine ev_iload_n (q := 89) dX10_tosser_88 rfl rfl ?_
          replace h := Option.bind_eq_some_iff.mp h; obtain ⟨r10, hr10, h⟩ := h
          refine ev_invS (M1 := M_X10_at) (as := [vr r9, vi v1]) dX10_tosser_89 rfl tw_406 cal_X10_at tw_252 (by decide) rfl rfl (Nat.le_of_ble_eq_true rfl) (met_X10_at r9 v1 w _ hr10) ?_
          cases h
          exact ev_iret dX10_tosser_92 rfl rfl
        · rw [if_neg hc2] at h
          by_cases hc3 : v2 = 3
          · rw [if_pos hc3] at h
            refine ev_table_in (q := 93) (off := 79) dX10_tosser_14 (by rw [hc3]; decide) (by rw [hc3]; decide) (by rw [hc3]; rfl) (by decide) ?_
            refine ev_aload_n (q := 94) dX10_tosser_93 rfl rfl ?_
            replace h := Option.bind_eq_some_iff.mp h; obtain ⟨r11, hr11, h⟩ := h
            refine ev_dv_batter dX10_tosser_94 rfl tw_523 (by decide) (Nat.le_of_ble_eq_true rfl) hr11 ?_
            cases h
            exact ev_iret dX10_tosser_97 rfl rfl
          · rw [if_neg hc3] at h
            by_cases hc4 : v2 = 4
            · rw [if_pos hc4] at h
              refine ev_table_in (q := 98) (off := 84) dX10_tosser_14 (by rw [hc4]; decide) (by rw [hc4]; decide) (by rw [hc4]; rfl) (by decide) ?_
              refine ev_aload_n (q := 99) dX10_tosser_98 rfl rfl ?_
              refine ev_iload_n (q := 100) dX10_tosser_99 rfl rfl ?_
              replace h := Option.bind_eq_some_iff.mp h; obtain ⟨q13, hq13, h⟩ := h
              obtain ⟨hxq13, fsq13, hkq13⟩ := kO_spec hq13
              cases hxq13
              replace h := Option.bind_eq_some_iff.mp h; obtain ⟨r12, hr12, h⟩ := h
              refine ev_invV (M1 := M_X10_bestAimOf) (as := [vi v1]) (fs := fsq13) (ci := 10) dX10_tosser_100 rfl tw_540 cal_X10_bestAimOf tw_542 tw_16 (by decide) rfl rfl (Nat.le_of_ble_eq_true rfl) hkq13 rfl (met_X10_bestAimOf o v1 w _ hr12) ?_
              cases h
              exact ev_iret dX10_tosser_103 rfl rfl
            · rw [if_neg hc4] at h
              by_cases hc5 : v2 = 5
              · rw [if_pos hc5] at h
                refine ev_table_in (q := 104) (off := 90) dX10_tosser_14 (by rw [hc5]; decide) (by rw [hc5]; decide) (by rw [hc5]; rfl) (by decide) ?_
                refine ev_aload_n (q := 105) dX10_tosser_104 rfl rfl ?_
                refine ev_iload_n (q := 106) dX10_tosser_105 rfl rfl ?_
                refine ev_aload_n (q := 107) dX10_tosser_106 rfl rfl ?_
                refine ev_iload_n (q := 108) dX10_tosser_107 rfl rfl ?_
                replace h := Option.bind_eq_some_iff.mp h; obtain ⟨q15, hq15, h⟩ := h
                obtain ⟨hxq15, fsq15, hkq15⟩ := kO_spec hq15
                cases hxq15
                replace h := Option.bind_eq_some_iff.mp h; obtain ⟨r14, hr14, h⟩ := h
                refine ev_invV (M1 := M_X10_bestAimOf) (as := [vi v1]) (fs := fsq15) (ci := 10) dX10_tosser_108 rfl tw_540 cal_X10_bestAimOf tw_542 tw_16 (by decide) rfl rfl (Nat.le_of_ble_eq_true rfl) hkq15 rfl (met_X10_bestAimOf o v1 w _ hr14) ?_
                replace h := Option.bind_eq_some_iff.mp h; obtain ⟨q17, hq17, h⟩ := h
                obtain ⟨hxq17, fsq17, hkq17⟩ := kO_spec hq17
                cases hxq17
                replace h := Option.bind_eq_some_iff.mp h; obtain ⟨r16, hr16, h⟩ := h
                refine ev_invV (M1 := M_X10_freshOf) (as := [vi v1, vi r14]) (fs := fsq17) (ci := 10) dX10_tosser_111 rfl tw_544 cal_X10_freshOf tw_546 tw_17 (by decide) rfl rfl (Nat.le_of_ble_eq_true rfl) hkq17 rfl (met_X10_freshOf o v1 r14 w _ hr16) ?_
                cases h
                exact ev_iret dX10_tosser_114 rfl rfl
              · rw [if_neg hc5] at h
                by_cases hc6 : v2 = 6
                · rw [if_pos hc6] at h
                  refine ev_table_in (q := 115) (off := 101) dX10_tosser_14 (by rw [hc6]; decide) (by rw [hc6]; decide) (by rw [hc6]; rfl) (by decide) ?_
                  refine ev_aload_n (q := 116) dX10_tosser_115 rfl rfl ?_
                  replace h := Option.bind_eq_some_iff.mp h; obtain ⟨r18, hr18, h⟩ := h
                  refine ev_gR dX10_tosser_116 fl_X10_32 hr18 rfl ?_
                  replace h := Option.bind_eq_some_iff.mp h; obtain ⟨r19, hr19, h⟩ := h
                  refine ev_gR dX10_tosser_119 fl_X10_123 hr19 rfl ?_
                  refine ev_iload_n (q := 123) dX10_tosser_122 rfl rfl ?_
                  replace h := Option.bind_eq_some_iff.mp h; obtain ⟨q21, hq21, h⟩ := h
                  obtain ⟨hxq21, fsq21, hkq21⟩ := kO_spec hq21
                  subst hxq21
                  replace h := Option.bind_eq_some_iff.mp h; obtain ⟨r20, hr20, h⟩ := h
                  refine ev_invV (M1 := M_X6_turnsOf) (as := [vi v1]) (fs := fsq21) (ci := 6) dX10_tosser_123 rfl tw_558 cal_X6_turnsOf tw_559 tw_560 (by decide) rfl rfl (Nat.le_of_ble_eq_true rfl) hkq21 rfl (met_X6_turnsOf q21 v1 w _ hr20) ?_
                  cases h
                  exact ev_iret dX10_tosser_126 rfl rfl
                · rw [if_neg hc6] at h
                  by_cases hc7 : v2 = 7
                  · rw [if_pos hc7] at h
                    refine ev_table_in (q := 127) (off := 113) dX10_tosser_14 (by rw [hc7]; decide) (by rw [hc7]; decide) (by rw [hc7]; rfl) (by decide) ?_
                    refine ev_aload_n (q := 128) dX10_tosser_127 rfl rfl ?_
                    replace h := Option.bind_eq_some_iff.mp h; obtain ⟨r22, hr22, h⟩ := h
                    refine ev_gR dX10_tosser_128 fl_X10_32 hr22 rfl ?_
                    replace h := Option.bind_eq_some_iff.mp h; obtain ⟨r23, hr23, h⟩ := h
                    refine ev_gR dX10_tosser_131 fl_X10_123 hr23 rfl ?_
                    refine ev_iload_n (q := 135) dX10_tosser_134 rfl rfl ?_
                    replace h := Option.bind_eq_some_iff.mp h; obtain ⟨q25, hq25, h⟩ := h
                    obtain ⟨hxq25, fsq25, hkq25⟩ := kO_spec hq25
                    subst hxq25
                    replace h := Option.bind_eq_some_iff.mp h; obtain ⟨r24, hr24, h⟩ := h
                    refine ev_invV (M1 := M_X6_turnsOf) (as := [vi v1]) (fs := fsq25) (ci := 6) dX10_tosser_135 rfl tw_558 cal_X6_turnsOf tw_559 tw_560 (by decide) rfl rfl (Nat.le_of_ble_eq_true rfl) hkq25 rfl (met_X6_turnsOf q25 v1 w _ hr24) ?_
                    replace h := Option.bind_eq_some_iff.mp h; obtain ⟨r26, hr26, h⟩ := h
                    refine ev_invS (M1 := M_X10_tellingAim) (as := [vi r24]) dX10_tosser_138 rfl tw_573 cal_X10_tellingAim tw_574 (by decide) rfl rfl (Nat.le_of_ble_eq_true rfl) (met_X10_tellingAim r24 w _ hr26) ?_
                    cases h
                    exact ev_iret dX10_tosser_141 rfl rfl
                  · rw [if_neg hc7] at h
                    by_cases hc8 : v2 = 8
                    · rw [if_pos hc8] at h
                      refine ev_table_in (q := 142) (off := 128) dX10_tosser_14 (by rw [hc8]; decide) (by rw [hc8]; decide) (by rw [hc8]; rfl) (by decide) ?_
                      refine ev_aload_n (q := 143) dX10_tosser_142 rfl rfl ?_
                      replace h := Option.bind_eq_some_iff.mp h; obtain ⟨r27, hr27, h⟩ := h
                      refine ev_gR dX10_tosser_143 fl_X10_32 hr27 rfl ?_
                      replace h := Option.bind_eq_some_iff.mp h; obtain ⟨r28, hr28, h⟩ := h
                      refine ev_gR dX10_tosser_146 fl_X10_135 hr28 rfl ?_
                      refine ev_iload_n (q := 150) dX10_tosser_149 rfl rfl ?_
                      replace h := Option.bind_eq_some_iff.mp h; obtain ⟨r29, hr29, h⟩ := h
                      refine ev_invS (M1 := M_X10_at) (as := [vr r28, vi v1]) dX10_tosser_150 rfl tw_406 cal_X10_at tw_252 (by decide) rfl rfl (Nat.le_of_ble_eq_true rfl) (met_X10_at r28 v1 w _ hr29) ?_
                      cases h
                      exact ev_iret dX10_tosser_153 rfl rfl
                    · rw [if_neg hc8] at h
                      refine ev_table_out (q := 154) dX10_tosser_14 (by have z0 := mNe (z := 0) (by decide) hc0; have z1 := mNe (z := 1) (by decide) hc1; have z2 := mNe (z := 2) (by decide) hc2; have z3 := mNe (z := 3) (by decide) hc3; have z4 := mNe (z := 4) (by decide) hc4; have z5 := mNe (z := 5) (by decide) hc5; have z6 := mNe (z := 6) (by decide) hc6; have z7 := mNe (z := 7) (by decide) hc7; have z8 := mNe (z := 8) (by decide) hc8; omega) (by decide) ?_
                      refine ev_bipush (q := 156) (v := (-102 : Int32)) dX10_tosser_154 rfl (by decide) ?_
                      cases h
                      exact ev_iret dX10_tosser_156 rfl rfl
def f_X5_read_L30 (o : Nat) (v1 : Option Nat) (v2 : Int32) : Nat → Int32 → mW → Option ((Int32 × mW) ⊕ (mW))
  | 0, _, _ => none
  | n + 1, v3, w => if v2 ≤ v3 then (some (.inr w)) else (Option.bind (gR w v1 3 0) fun r1 => Option.bind (f_X10_at r1 v3 w) fun r2 => Option.bind (kO w (some o) 5) fun _ => Option.bind (f_X5_takes o r2 w) fun r3 => if r3.1 = 0 then (some (.inl (v3, r3.2))) else ((f_X5_read_L30 o v1 v2 n) (v3 + (1 : Int32)) r3.2))
set_option maxRecDepth 100000 in
set_option maxHeartbeats 4000000 in
theorem e_X5_read_L30 {X : mXs} {r : Option mV} {w' : mW} (P : ((Int32 × mW) ⊕ (mW)) → Prop) (o : Nat) (v1 : Option Nat) (v2 : Int32) (hret : ∀ y, P (.inl y) → r = (some (vi y.1)) ∧ w' = y.2) (hexit : ∀ y, P (.inr y) → mEv X M_X5_read 6 r w' 58 [none, none, some (vi v2), none] [] y) : ∀ (n : Nat) (v3 : Int32) (w : mW) (e : (Int32 × mW) ⊕ (mW)), f_X5_read_L30 o v1 v2 n v3 w = some e → P e → mEv X M_X5_read 6 r w' 30 [some (vr ((some o))), some (vr v1), some (vi v2), some (vi v3)] [] w := by
  intro n
  induction n with
  | zero =>
    intro v3 w e h hP
    rw [f_X5_read_L30] at h
    cases h
  | succ n hk =>
    intro v3 w e h hP
    rw [f_X5_read_L30] at h
    refine ev_iload_n (q := 31) dX5_read_30 rfl rfl ?_
    refine ev_iload_n (q := 32) dX5_read_31 rfl rfl ?_
    by_cases hc : v2 ≤ v3
    · rw [if_pos hc] at h
      refine ev_icmp_ge_t (q := 58) dX5_read_32 (by decide) hc ?_
      cases h
      exact ev_weak _ (mLe_none (mLe_none (mLe_some (mLe_none mLe_nil)))) (hexit _ hP)
    · rw [if_neg hc] at h
      refine ev_icmp_ge_f (q := 35) (t0 := 58) dX5_read_32 (by decide) rfl hc ?_
      refine ev_aload_n (q := 36) dX5_read_35 rfl rfl ?_
      refine ev_aload_n (q := 37) dX5_read_36 rfl rfl ?_
      replace h := Option.bind_eq_some_iff.mp h; obtain ⟨r1, hr1, h⟩ := h
      refine ev_gR dX5_read_37 fl_X5_39 hr1 rfl ?_
      refine ev_iload_n (q := 41) dX5_read_40 rfl rfl ?_
      replace h := Option.bind_eq_some_iff.mp h; obtain ⟨r2, hr2, h⟩ := h
      refine ev_invSN (M1 := M_X10_at) (as := [vr r1, vi v3]) dX5_read_41 rfl tw_251 cal_X10_at tw_252 (by decide) rfl rfl (Nat.le_of_ble_eq_true rfl) (met_X10_at r1 v3 w _ hr2) ?_
      replace h := Option.bind_eq_some_iff.mp h; obtain ⟨q4, hq4, h⟩ := h
      obtain ⟨hxq4, fsq4, hkq4⟩ := kO_spec hq4
      cases hxq4
      replace h := Option.bind_eq_some_iff.mp h; obtain ⟨r3, hr3, h⟩ := h
      refine ev_invV (M1 := M_X5_takes) (as := [vi r2]) (fs := fsq4) (ci := 5) dX5_read_44 rfl tw_254 cal_X5_takes tw_256 tw_0 (by decide) rfl rfl (Nat.le_of_ble_eq_true rfl) hkq4 rfl (met_X5_takes o r2 w _ hr3) ?_
      by_cases hc : r3.1 = 0
      · rw [if_pos hc] at h
        refine ev_if_ne_f (q := 50) (t0 := 52) dX5_read_47 (by decide) rfl hc ?_
        refine ev_iload_n (q := 51) dX5_read_50 rfl rfl ?_
        cases h
        obtain ⟨hr1, hr2⟩ := hret _ hP
        subst hr1
        subst hr2
        exact ev_iret dX5_read_51 rfl rfl
      · rw [if_neg hc] at h
        refine ev_if_ne_t (q := 52) dX5_read_47 (by decide) hc ?_
        refine ev_iinc (q := 55) (v := v3 + (1 : Int32)) dX5_read_52 rfl (by decide) rfl (by rfl) ?_
        refine ev_goto (q := 30) dX5_read_55 (by decide) ?_
        exact ev_weak _ (mLe_some (mLe_some (mLe_some (mLe_some mLe_nil)))) (hk (v3 + (1 : Int32)) r3.2 _ h hP)
def f_X5_read_J27 (o : Nat) (v1 : Option Nat) (s0 : Int32) (w : mW) : Option (Int32 × mW) := Option.bind (f_X5_read_L30 o v1 s0 mFuel (0 : Int32) w) fun e5 => match e5 with | .inl y7 => some y7 | .inr y6 => some ((s0, y6))
set_option maxRecDepth 100000 in
set_option maxHeartbeats 4000000 in
theorem e_X5_read_J27 {X : mXs} (o : Nat) (v1 : Option Nat) (s0 : Int32) (w : mW) (res : Int32 × mW) (h : f_X5_read_J27 o v1 s0 w = some res) : mEv X M_X5_read 6 (some (vi res.1)) res.2 27 [some (vr ((some o))), some (vr v1), none, none] [vi s0] w := by
  unfold f_X5_read_J27 at h
  refine ev_istore_n (q := 28) dX5_read_27 rfl (by decide) ?_
  refine ev_iconst (q := 29) (v := (0 : Int32)) dX5_read_28 rfl (by decide) ?_
  refine ev_istore_n (q := 30) dX5_read_29 rfl (by decide) ?_
  replace h := Option.bind_eq_some_iff.mp h; obtain ⟨e5, he5, h⟩ := h
  refine ev_weak _ (mLe_some (mLe_some (mLe_some (mLe_some mLe_nil)))) (e_X5_read_L30 (fun z => e5 = z) o v1 s0 (fun y7 hq => ?_) (fun y6 hq => ?_) mFuel (0 : Int32) w _ he5 rfl)
  · subst hq
    dsimp only at h
    cases h
    exact ⟨rfl, rfl⟩
  · subst hq
    dsimp only at h
    refine ev_iload_n (q := 59) dX5_read_58 rfl rfl ?_
    cases h
    exact ev_iret dX5_read_59 rfl rfl
def f_X5_read (o : Nat) (v1 : Option Nat) (w : mW) : Option (Int32 × mW) := Option.bind (pI w (some o) 5 4 (0 : Int32)) fun w8 => Option.bind (pI w8 (some o) 5 5 (0 : Int32)) fun w9 => Option.bind (pI w9 (some o) 5 7 (0 : Int32)) fun w10 => oC v1 (f_X5_read_J27 o none (0 : Int32) w10) (fun a11 => Option.bind (gI w10 (some a11) 3 1) fun r12 => f_X5_read_J27 o (some a11) r12 w10)
set_option maxRecDepth 100000 in
set_option maxHeartbeats 4000000 in
theorem met_X5_read (o : Nat) (v1 : Option Nat) (w : mW) (res : Int32 × mW) (h : f_X5_read o v1 w = some res) : mMet M_X5_read 6 [vr ((some o)), vr v1] w (some (vi res.1)) res.2 := by
  refine ev_met (n := 2) (by decide) rfl fun X => ?_
  unfold f_X5_read at h
  show mEv X M_X5_read 6 _ _ 0 [some (vr ((some o))), some (vr v1), none, none] [] w
  refine ev_aload_n (q := 1) dX5_read_0 rfl rfl ?_
  refine ev_iconst (q := 2) (v := (0 : Int32)) dX5_read_1 rfl (by decide) ?_
  replace h := Option.bind_eq_some_iff.mp h; obtain ⟨w8, hw8, h⟩ := h
  refine ev_pI dX5_read_2 fp_X5_24 hw8 rfl ?_
  refine ev_aload_n (q := 6) dX5_read_5 rfl rfl ?_
  refine ev_iconst (q := 7) (v := (0 : Int32)) dX5_read_6 rfl (by decide) ?_
  replace h := Option.bind_eq_some_iff.mp h; obtain ⟨w9, hw9, h⟩ := h
  refine ev_pI dX5_read_7 fp_X5_28 hw9 rfl ?_
  refine ev_aload_n (q := 11) dX5_read_10 rfl rfl ?_
  refine ev_iconst (q := 12) (v := (0 : Int32)) dX5_read_11 rfl (by decide) ?_
  replace h := Option.bind_eq_some_iff.mp h; obtain ⟨w10, hw10, h⟩ := h
  refine ev_pI dX5_read_12 fp_X5_31 hw10 rfl ?_
  refine ev_aload_n (q := 16) dX5_read_15 rfl rfl ?_
  rcases v1 with _ | a11
  · dsimp only [oC] at h
    refine ev_ifnonnull_f (q := 19) dX5_read_16 rfl ?_
    refine ev_iconst (q := 20) (v := (0 : Int32)) dX5_read_19 rfl (by decide) ?_
    refine ev_goto (q := 27) dX5_read_20 (by decide) ?_
    exact ev_weak _ (mLe_some (mLe_some (mLe_none (mLe_none mLe_nil)))) (e_X5_read_J27 o none (0 : Int32) w10 _ h)
  · dsimp only [oC] at h
    refine ev_ifnonnull_t (q := 23) dX5_read_16 (by decide) ?_
    refine ev_aload_n (q := 24) dX5_read_23 rfl rfl ?_
    replace h := Option.bind_eq_some_iff.mp h; obtain ⟨r12, hr12, h⟩ := h
    refine ev_gI dX5_read_24 fl_X5_34 hr12 rfl ?_
    exact ev_weak _ (mLe_some (mLe_some (mLe_none (mLe_none mLe_nil)))) (e_X5_read_J27 o (some a11) r12 w10 _ h)
def f_X10_fault (o : Nat) (w : mW) : Option (Int32 × mW) := Option.bind (gR w (some o) 10 1) fun r1 => Option.bind (gR w (some o) 10 0) fun r2 => Option.bind (kO w r1 5) fun q4 => Option.bind (f_X5_read q4 r2 w) fun r3 => some ((r3.1, r3.2))
set_option maxRecDepth 100000 in
set_option maxHeartbeats 4000000 in
theorem met_X10_fault (o : Nat) (w : mW) (res : Int32 × mW) (h : f_X10_fault o w = some res) : mMet M_X10_fault 7 [vr ((some o))] w (some (vi res.1)) res.2 := by
  refine ev_met (n := 0) (by decide) rfl fun X => ?_
  unfold f_X10_fault at h
  show mEv X M_X10_fault 7 _ _ 0 [some (vr ((some o)))] [] w
  refine ev_aload_n (q := 1) dX10_fault_0 rfl rfl ?_
  replace h := Option.bind_eq_some_iff.mp h; obtain ⟨r1, hr1, h⟩ := h
  refine ev_gR dX10_fault_1 fl_X10_19 hr1 rfl ?_
  refine ev_aload_n (q := 5) dX10_fault_4 rfl rfl ?_
  replace h := Option.bind_eq_some_iff.mp h; obtain ⟨r2, hr2, h⟩ := h
  refine ev_gR dX10_fault_5 fl_X10_10 hr2 rfl ?_
  replace h := Option.bind_eq_some_iff.mp h; obtain ⟨q4, hq4, h⟩ := h
  obtain ⟨hxq4, fsq4, hkq4⟩ := kO_spec hq4
  subst hxq4
  replace h := Option.bind_eq_some_iff.mp h; obtain ⟨r3, hr3, h⟩ := h
  refine ev_invV (M1 := M_X5_read) (as := [vr r2]) (fs := fsq4) (ci := 5) dX10_fault_8 rfl tw_247 cal_X5_read tw_248 tw_249 (by decide) rfl rfl (Nat.le_of_ble_eq_true rfl) hkq4 rfl (met_X5_read q4 r2 w _ hr3) ?_
  cases h
  exact ev_iret dX10_fault_11 rfl rfl
def f_X10_port_J31 (w : mW) : Option (Int32 × mW) := some (((-103 : Int32), w))
set_option maxRecDepth 100000 in
set_option maxHeartbeats 4000000 in
theorem e_X10_port_J31 {X : mXs} (w : mW) (res : Int32 × mW) (h : f_X10_port_J31 w = some res) : mEv X M_X10_port 7 (some (vi res.1)) res.2 31 [none] [] w := by
  unfold f_X10_port_J31 at h
  refine ev_bipush (q := 33) (v := (-103 : Int32)) dX10_port_31 rfl (by decide) ?_
  cases h
  exact ev_iret dX10_port_33 rfl rfl
def f_X10_port (o : Nat) (w : mW) : Option (Int32 × mW) := Option.bind (gR w (some o) 10 1) fun r1 => Option.bind (gR w (some o) 10 0) fun r2 => Option.bind (kO w r1 5) fun q4 => Option.bind (f_X5_read q4 r2 w) fun r3 => Option.bind (gR r3.2 (some o) 10 0) fun r5 => Option.bind (gI r3.2 r5 3 1) fun r6 => if r3.1 < r6 then (f_X10_port_J31 r3.2) else (Option.bind (gR r3.2 (some o) 10 1) fun r7 => Option.bind (kO r3.2 r7 5) fun q9 => Option.bind (f_X5_isWhole q9  r3.2) fun r8 => if r8 = 0 then (f_X10_port_J31 r3.2) else (Option.bind (kO r3.2 (some o) 10) fun _ => Option.bind (f_X10_settle o  r3.2) fun w10 => Option.bind (gR w10 (some o) 10 0) fun r12 => Option.bind (pI w10 r12 3 1 (0 : Int32)) fun w13 => Option.bind (gI w13 (some o) 10 9) fun r14 => Option.bind (pI w13 (some o) 10 9 (r14 + (1 : Int32))) fun w15 => Option.bind (gI w15 (some o) 10 7) fun r16 => some ((r16, w15))))
set_option maxRecDepth 100000 in
set_option maxHeartbeats 4000000 in
theorem met_X10_port (o : Nat) (w : mW) (res : Int32 × mW) (h : f_X10_port o w = some res) : mMet M_X10_port 7 [vr ((some o))] w (some (vi res.1)) res.2 := by
  refine ev_met (n := 0) (by decide) rfl fun X => ?_
  unfold f_X10_port at h
  show mEv X M_X10_port 7 _ _ 0 [some (vr ((some o)))] [] w
  refine ev_aload_n (q := 1) dX10_port_0 rfl rfl ?_
  replace h := Option.bind_eq_some_iff.mp h; obtain ⟨r1, hr1, h⟩ := h
  refine ev_gR dX10_port_1 fl_X10_19 hr1 rfl ?_
  refine ev_aload_n (q := 5) dX10_port_4 rfl rfl ?_
  replace h := Option.bind_eq_some_iff.mp h; obtain ⟨r2, hr2, h⟩ := h
  refine ev_gR dX10_port_5 fl_X10_10 hr2 rfl ?_
  replace h := Option.bind_eq_some_iff.mp h; obtain ⟨q4, hq4, h⟩ := h
  obtain ⟨hxq4, fsq4, hkq4⟩ := kO_spec hq4
  subst hxq4
  replace h := Option.bind_eq_some_iff.mp h; obtain ⟨r3, hr3, h⟩ := h
  refine ev_invV (M1 := M_X5_read) (as := [vr r2]) (fs := fsq4) (ci := 5) dX10_port_8 rfl tw_247 cal_X5_read tw_248 tw_249 (by decide) rfl rfl (Nat.le_of_ble_eq_true rfl) hkq4 rfl (met_X5_read q4 r2 w _ hr3) ?_
  refine ev_aload_n (q := 12) dX10_port_11 rfl rfl ?_
  replace h := Option.bind_eq_some_iff.mp h; obtain ⟨r5, hr5, h⟩ := h
  refine ev_gR dX10_port_12 fl_X10_10 hr5 rfl ?_
  replace h := Option.bind_eq_some_iff.mp h; obtain ⟨r6, hr6, h⟩ := h
  refine ev_gI dX10_port_15 fl_X10_50 hr6 rfl ?_
  by_cases hc : r3.1 < r6
  · rw [if_pos hc] at h
    refine ev_icmp_lt_t (q := 31) dX10_port_18 (by decide) hc ?_
    exact ev_weak _ (mLe_none mLe_nil) (e_X10_port_J31 r3.2 _ h)
  · rw [if_neg hc] at h
    refine ev_icmp_lt_f (q := 21) (t0 := 31) dX10_port_18 (by decide) rfl hc ?_
    refine ev_aload_n (q := 22) dX10_port_21 rfl rfl ?_
    replace h := Option.bind_eq_some_iff.mp h; obtain ⟨r7, hr7, h⟩ := h
    refine ev_gR dX10_port_22 fl_X10_19 hr7 rfl ?_
    replace h := Option.bind_eq_some_iff.mp h; obtain ⟨q9, hq9, h⟩ := h
    obtain ⟨hxq9, fsq9, hkq9⟩ := kO_spec hq9
    subst hxq9
    replace h := Option.bind_eq_some_iff.mp h; obtain ⟨r8, hr8, h⟩ := h
    refine ev_invV (M1 := M_X5_isWhole) (as := []) (fs := fsq9) (ci := 5) dX10_port_25 rfl tw_387 cal_X5_isWhole tw_388 tw_389 (by decide) rfl rfl (Nat.le_of_ble_eq_true rfl) hkq9 rfl (met_X5_isWhole q9  r3.2 _ hr8) ?_
    by_cases hc : r8 = 0
    · rw [if_pos hc] at h
      refine ev_if_ne_f (q := 31) (t0 := 34) dX10_port_28 (by decide) rfl hc ?_
      exact ev_weak _ (mLe_none mLe_nil) (e_X10_port_J31 r3.2 _ h)
    · rw [if_neg hc] at h
      refine ev_if_ne_t (q := 34) dX10_port_28 (by decide) hc ?_
      refine ev_aload_n (q := 35) dX10_port_34 rfl rfl ?_
      replace h := Option.bind_eq_some_iff.mp h; obtain ⟨q11, hq11, h⟩ := h
      obtain ⟨hxq11, fsq11, hkq11⟩ := kO_spec hq11
      cases hxq11
      replace h := Option.bind_eq_some_iff.mp h; obtain ⟨w10, hw10, h⟩ := h
      refine ev_invV (M1 := M_X10_settle) (as := []) (fs := fsq11) (ci := 10) dX10_port_35 rfl tw_391 cal_X10_settle tw_393 tw_8 (by decide) rfl rfl (Nat.le_of_ble_eq_true rfl) hkq11 rfl (met_X10_settle o  r3.2 _ hw10) ?_
      refine ev_aload_n (q := 39) dX10_port_38 rfl rfl ?_
      replace h := Option.bind_eq_some_iff.mp h; obtain ⟨r12, hr12, h⟩ := h
      refine ev_gR dX10_port_39 fl_X10_10 hr12 rfl ?_
      refine ev_iconst (q := 43) (v := (0 : Int32)) dX10_port_42 rfl (by decide) ?_
      replace h := Option.bind_eq_some_iff.mp h; obtain ⟨w13, hw13, h⟩ := h
      refine ev_pI dX10_port_43 fp_X10_50 hw13 rfl ?_
      refine ev_aload_n (q := 47) dX10_port_46 rfl rfl ?_
      refine ev_dup (q := 48) dX10_port_47 rfl rfl ?_
      replace h := Option.bind_eq_some_iff.mp h; obtain ⟨r14, hr14, h⟩ := h
      refine ev_gI dX10_port_48 fl_X10_69 hr14 rfl ?_
      refine ev_iconst (q := 52) (v := (1 : Int32)) dX10_port_51 rfl (by decide) ?_
      refine ev_iadd (q := 53) dX10_port_52 rfl ?_
      replace h := Option.bind_eq_some_iff.mp h; obtain ⟨w15, hw15, h⟩ := h
      refine ev_pI dX10_port_53 fp_X10_69 hw15 rfl ?_
      refine ev_aload_n (q := 57) dX10_port_56 rfl rfl ?_
      replace h := Option.bind_eq_some_iff.mp h; obtain ⟨r16, hr16, h⟩ := h
      refine ev_gI dX10_port_57 fl_X10_72 hr16 rfl ?_
      cases h
      exact ev_iret dX10_port_60 rfl rfl
