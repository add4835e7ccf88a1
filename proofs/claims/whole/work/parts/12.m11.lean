def f_X11_tellSleeper (o : Nat) (v1 : Int32) (v2 : Int32) (w : mW) : Option (Int32) := if v2 = 0 then (Option.bind (gR w (some o) 11 10) fun r1 => Option.bind (aL w r1 v1) fun r2 => some (r2)) else (if v2 = 1 then (Option.bind (gR w (some o) 11 11) fun r3 => Option.bind (aL w r3 v1) fun r4 => some (r4)) else (if v2 = 2 then (Option.bind (gR w (some o) 11 12) fun r5 => Option.bind (aL w r5 v1) fun r6 => some (r6)) else (if v2 = 3 then (Option.bind (gR w (some o) 11 13) fun r7 => Option.bind (aL w r7 v1) fun r8 => some (r8)) else (if v2 = 4 then (Option.bind (kO w (some o) 11) fun _ => Option.bind (f_X11_lieOf o v1 w) fun r9 => some (r9)) else (some ((-102 : Int32)))))))
set_option maxRecDepth 100000 in
set_option maxHeartbeats 4000000 in
theorem met_X11_tellSleeper (o : Nat) (v1 : Int32) (v2 : Int32) (w : mW) (res : Int32) (h : f_X11_tellSleeper o v1 v2 w = some res) : mMet M_X11_tellSleeper 6 [vr ((some o)), vi v1, vi v2] w (some (vi res)) w := by
  refine ev_met (n := 0) (by decide) rfl fun X => ?_
  unfold f_X11_tellSleeper at h
  show mEv X M_X11_tellSleeper 6 _ _ 0 [some (vr ((some o))), some (vi v1), some (vi v2)] [] w
  refine ev_iload_n (q := 1) dX11_tellSleeper_0 rfl rfl ?_
  by_cases hc0 : v2 = 0
  · rw [if_pos hc0] at h
    refine ev_table_in (q := 36) (off := 35) dX11_tellSleeper_1 (by rw [hc0]; decide) (by rw [hc0]; decide) (by rw [hc0]; rfl) (by decide) ?_
    refine ev_aload_n (q := 37) dX11_tellSleeper_36 rfl rfl ?_
    replace h := Option.bind_eq_some_iff.mp h; obtain ⟨r1, hr1, h⟩ := h
    refine ev_gR dX11_tellSleeper_37 fl_X11_13 hr1 rfl ?_
    refine ev_iload_n (q := 41) dX11_tellSleeper_40 rfl rfl ?_
    replace h := Option.bind_eq_some_iff.mp h; obtain ⟨r2, hr2, h⟩ := h
    refine ev_aL dX11_tellSleeper_41 hr2 rfl ?_
    cases h
    exact ev_iret dX11_tellSleeper_42 rfl rfl
  · rw [if_neg hc0] at h
    by_cases hc1 : v2 = 1
    · rw [if_pos hc1] at h
      refine ev_table_in (q := 43) (off := 42) dX11_tellSleeper_1 (by rw [hc1]; decide) (by rw [hc1]; decide) (by rw [hc1]; rfl) (by decide) ?_
      refine ev_aload_n (q := 44) dX11_tellSleeper_43 rfl rfl ?_
      replace h := Option.bind_eq_some_iff.mp h; obtain ⟨r3, hr3, h⟩ := h
      refine ev_gR dX11_tellSleeper_44 fl_X11_16 hr3 rfl ?_
      refine ev_iload_n (q := 48) dX11_tellSleeper_47 rfl rfl ?_
      replace h := Option.bind_eq_some_iff.mp h; obtain ⟨r4, hr4, h⟩ := h
      refine ev_aL dX11_tellSleeper_48 hr4 rfl ?_
      cases h
      exact ev_iret dX11_tellSleeper_49 rfl rfl
    · rw [if_neg hc1] at h
      by_cases hc2 : v2 = 2
      · rw [if_pos hc2] at h
        refine ev_table_in (q := 50) (off := 49) dX11_tellSleeper_1 (by rw [hc2]; decide) (by rw [hc2]; decide) (by rw [hc2]; rfl) (by decide) ?_
        refine ev_aload_n (q := 51) dX11_tellSleeper_50 rfl rfl ?_
        replace h := Option.bind_eq_some_iff.mp h; obtain ⟨r5, hr5, h⟩ := h
        refine ev_gR dX11_tellSleeper_51 fl_X11_19 hr5 rfl ?_
        refine ev_iload_n (q := 55) dX11_tellSleeper_54 rfl rfl ?_
        replace h := Option.bind_eq_some_iff.mp h; obtain ⟨r6, hr6, h⟩ := h
        refine ev_aL dX11_tellSleeper_55 hr6 rfl ?_
        cases h
        exact ev_iret dX11_tellSleeper_56 rfl rfl
      · rw [if_neg hc2] at h
        by_cases hc3 : v2 = 3
        · rw [if_pos hc3] at h
          refine ev_table_in (q := 57) (off := 56) dX11_tellSleeper_1 (by rw [hc3]; decide) (by rw [hc3]; decide) (by rw [hc3]; rfl) (by decide) ?_
          refine ev_aload_n (q := 58) dX11_tellSleeper_57 rfl rfl ?_
          replace h := Option.bind_eq_some_iff.mp h; obtain ⟨r7, hr7, h⟩ := h
          refine ev_gR dX11_tellSleeper_58 fl_X11_22 hr7 rfl ?_
          refine ev_iload_n (q := 62) dX11_tellSleeper_61 rfl rfl ?_
          replace h := Option.bind_eq_some_iff.mp h; obtain ⟨r8, hr8, h⟩ := h
          refine ev_aL dX11_tellSleeper_62 hr8 rfl ?_
          cases h
          exact ev_iret dX11_tellSleeper_63 rfl rfl
        · rw [if_neg hc3] at h
          by_cases hc4 : v2 = 4
          · rw [if_pos hc4] at h
            refine ev_table_in (q := 64) (off := 63) dX11_tellSleeper_1 (by rw [hc4]; decide) (by rw [hc4]; decide) (by rw [hc4]; rfl) (by decide) ?_
            refine ev_aload_n (q := 65) dX11_tellSleeper_64 rfl rfl ?_
            refine ev_iload_n (q := 66) dX11_tellSleeper_65 rfl rfl ?_
            replace h := Option.bind_eq_some_iff.mp h; obtain ⟨q10, hq10, h⟩ := h
            obtain ⟨hxq10, fsq10, hkq10⟩ := kO_spec hq10
            cases hxq10
            replace h := Option.bind_eq_some_iff.mp h; obtain ⟨r9, hr9, h⟩ := h
            refine ev_invV (M1 := M_X11_lieOf) (as := [vi v1]) (fs := fsq10) (ci := 11) dX11_tellSleeper_66 rfl tw_1045 cal_X11_lieOf tw_1047 tw_40 (by decide) rfl rfl (Nat.le_of_ble_eq_true rfl) hkq10 rfl (met_X11_lieOf o v1 w _ hr9) ?_
            cases h
            exact ev_iret dX11_tellSleeper_69 rfl rfl
          · rw [if_neg hc4] at h
            refine ev_table_out (q := 70) dX11_tellSleeper_1 (by have z0 := mNe (z := 0) (by decide) hc0; have z1 := mNe (z := 1) (by decide) hc1; have z2 := mNe (z := 2) (by decide) hc2; have z3 := mNe (z := 3) (by decide) hc3; have z4 := mNe (z := 4) (by decide) hc4; omega) (by decide) ?_
            refine ev_bipush (q := 72) (v := (-102 : Int32)) dX11_tellSleeper_70 rfl (by decide) ?_
            cases h
            exact ev_iret dX11_tellSleeper_72 rfl rfl
def f_X11_tellTosser (o : Nat) (v1 : Int32) (v2 : Int32) (w : mW) : Option (Int32) := if v2 = 0 then (Option.bind (gR w (some o) 11 14) fun r1 => Option.bind (aL w r1 v1) fun r2 => some (r2)) else (if v2 = 1 then (Option.bind (gR w (some o) 11 15) fun r3 => Option.bind (aL w r3 v1) fun r4 => some (r4)) else (if v2 = 2 then (Option.bind (gR w (some o) 11 16) fun r5 => Option.bind (aL w r5 v1) fun r6 => some (r6)) else (if v2 = 3 then (Option.bind (gR w (some o) 11 14) fun r7 => Option.bind (aL w r7 v1) fun r8 => Option.bind (f_X11_batterOf r8 w) fun r9 => some (r9)) else (if v2 = 4 then (Option.bind (kO w (some o) 11) fun _ => Option.bind (f_X11_mostOf o v1 v2 w) fun r10 => some (r10)) else (if v2 = 5 then (Option.bind (kO w (some o) 11) fun _ => Option.bind (f_X11_mostOf o v1 v2 w) fun r12 => some (r12)) else (if v2 = 6 then (Option.bind (kO w (some o) 11) fun _ => Option.bind (f_X11_turnsOf o v1 w) fun r14 => some (r14)) else (if v2 = 7 then (Option.bind (kO w (some o) 11) fun _ => Option.bind (f_X11_aimOf o v1 w) fun r16 => some (r16)) else (if v2 = 8 then (Option.bind (gR w (some o) 11 17) fun r18 => Option.bind (aL w r18 v1) fun r19 => some (r19)) else (some ((-102 : Int32)))))))))))
set_option maxRecDepth 100000 in
set_option maxHeartbeats 4000000 in
theorem met_X11_tellTosser (o : Nat) (v1 : Int32) (v2 : Int32) (w : mW) (res : Int32) (h : f_X11_tellTosser o v1 v2 w = some res) : mMet M_X11_tellTosser 6 [vr ((some o)), vi v1, vi v2] w (some (vi res)) w := by
  refine ev_met (n := 0) (by decide) rfl fun X => ?_
  unfold f_X11_tellTosser at h
  show mEv X M_X11_tellTosser 6 _ _ 0 [some (vr ((some o))), some (vi v1), some (vi v2)] [] w
  refine ev_iload_n (q := 1) dX11_tellTosser_0 rfl rfl ?_
  by_cases hc0 : v2 = 0
  · rw [if_pos hc0] at h
    refine ev_table_in (q := 52) (off := 51) dX11_tellTosser_1 (by rw [hc0]; decide) (by rw [hc0]; decide) (by rw [hc0]; rfl) (by decide) ?_
    refine ev_aload_n (q := 53) dX11_tellTosser_52 rfl rfl ?_
    replace h := Option.bind_eq_some_iff.mp h; obtain ⟨r1, hr1, h⟩ := h
    refine ev_gR dX11_tellTosser_53 fl_X11_25 hr1 rfl ?_
    refine ev_iload_n (q := 57) dX11_tellTosser_56 rfl rfl ?_
    replace h := Option.bind_eq_some_iff.mp h; obtain ⟨r2, hr2, h⟩ := h
    refine ev_aL dX11_tellTosser_57 hr2 rfl ?_
    cases h
    exact ev_iret dX11_tellTosser_58 rfl rfl
  · rw [if_neg hc0] at h
    by_cases hc1 : v2 = 1
    · rw [if_pos hc1] at h
      refine ev_table_in (q := 59) (off := 58) dX11_tellTosser_1 (by rw [hc1]; decide) (by rw [hc1]; decide) (by rw [hc1]; rfl) (by decide) ?_
      refine ev_aload_n (q := 60) dX11_tellTosser_59 rfl rfl ?_
      replace h := Option.bind_eq_some_iff.mp h; obtain ⟨r3, hr3, h⟩ := h
      refine ev_gR dX11_tellTosser_60 fl_X11_28 hr3 rfl ?_
      refine ev_iload_n (q := 64) dX11_tellTosser_63 rfl rfl ?_
      replace h := Option.bind_eq_some_iff.mp h; obtain ⟨r4, hr4, h⟩ := h
      refine ev_aL dX11_tellTosser_64 hr4 rfl ?_
      cases h
      exact ev_iret dX11_tellTosser_65 rfl rfl
    · rw [if_neg hc1] at h
      by_cases hc2 : v2 = 2
      · rw [if_pos hc2] at h
        refine ev_table_in (q := 66) (off := 65) dX11_tellTosser_1 (by rw [hc2]; decide) (by rw [hc2]; decide) (by rw [hc2]; rfl) (by decide) ?_
        refine ev_aload_n (q := 67) dX11_tellTosser_66 rfl rfl ?_
        replace h := Option.bind_eq_some_iff.mp h; obtain ⟨r5, hr5, h⟩ := h
        refine ev_gR dX11_tellTosser_67 fl_X11_31 hr5 rfl ?_
        refine ev_iload_n (q := 71) dX11_tellTosser_70 rfl rfl ?_
        replace h := Option.bind_eq_some_iff.mp h; obtain ⟨r6, hr6, h⟩ := h
        refine ev_aL dX11_tellTosser_71 hr6 rfl ?_
        cases h
        exact ev_iret dX11_tellTosser_72 rfl rfl
      · rw [if_neg hc2] at h
        by_cases hc3 : v2 = 3
        · rw [if_pos hc3] at h
          refine ev_table_in (q := 73) (off := 72) dX11_tellTosser_1 (by rw [hc3]; decide) (by rw [hc3]; decide) (by rw [hc3]; rfl) (by decide) ?_
          refine ev_aload_n (q := 74) dX11_tellTosser_73 rfl rfl ?_
          replace h := Option.bind_eq_some_iff.mp h; obtain ⟨r7, hr7, h⟩ := h
          refine ev_gR dX11_tellTosser_74 fl_X11_25 hr7 rfl ?_
          refine ev_iload_n (q := 78) dX11_tellTosser_77 rfl rfl ?_
          replace h := Option.bind_eq_some_iff.mp h; obtain ⟨r8, hr8, h⟩ := h
          refine ev_aL dX11_tellTosser_78 hr8 rfl ?_
          replace h := Option.bind_eq_some_iff.mp h; obtain ⟨r9, hr9, h⟩ := h
          refine ev_invS (M1 := M_X11_batterOf) (as := [vi r8]) dX11_tellTosser_79 rfl tw_1065 cal_X11_batterOf tw_1066 (by decide) rfl rfl (Nat.le_of_ble_eq_true rfl) (met_X11_batterOf r8 w _ hr9) ?_
          cases h
          exact ev_iret dX11_tellTosser_82 rfl rfl
        · rw [if_neg hc3] at h
          by_cases hc4 : v2 = 4
          · rw [if_pos hc4] at h
            refine ev_table_in (q := 83) (off := 82) dX11_tellTosser_1 (by rw [hc4]; decide) (by rw [hc4]; decide) (by rw [hc4]; rfl) (by decide) ?_
            refine ev_aload_n (q := 84) dX11_tellTosser_83 rfl rfl ?_
            refine ev_iload_n (q := 85) dX11_tellTosser_84 rfl rfl ?_
            refine ev_iload_n (q := 86) dX11_tellTosser_85 rfl rfl ?_
            replace h := Option.bind_eq_some_iff.mp h; obtain ⟨q11, hq11, h⟩ := h
            obtain ⟨hxq11, fsq11, hkq11⟩ := kO_spec hq11
            cases hxq11
            replace h := Option.bind_eq_some_iff.mp h; obtain ⟨r10, hr10, h⟩ := h
            refine ev_invV (M1 := M_X11_mostOf) (as := [vi v1, vi v2]) (fs := fsq11) (ci := 11) dX11_tellTosser_86 rfl tw_1068 cal_X11_mostOf tw_1070 tw_44 (by decide) rfl rfl (Nat.le_of_ble_eq_true rfl) hkq11 rfl (met_X11_mostOf o v1 v2 w _ hr10) ?_
            cases h
            exact ev_iret dX11_tellTosser_89 rfl rfl
          · rw [if_neg hc4] at h
            by_cases hc5 : v2 = 5
            · rw [if_pos hc5] at h
              refine ev_table_in (q := 83) (off := 82) dX11_tellTosser_1 (by rw [hc5]; decide) (by rw [hc5]; decide) (by rw [hc5]; rfl) (by decide) ?_
              refine ev_aload_n (q := 84) dX11_tellTosser_83 rfl rfl ?_
              refine ev_iload_n (q := 85) dX11_tellTosser_84 rfl rfl ?_
              refine ev_iload_n (q := 86) dX11_tellTosser_85 rfl rfl ?_
              replace h := Option.bind_eq_some_iff.mp h; obtain ⟨q13, hq13, h⟩ := h
              obtain ⟨hxq13, fsq13, hkq13⟩ := kO_spec hq13
              cases hxq13
              replace h := Option.bind_eq_some_iff.mp h; obtain ⟨r12, hr12, h⟩ := h
              refine ev_invV (M1 := M_X11_mostOf) (as := [vi v1, vi v2]) (fs := fsq13) (ci := 11) dX11_tellTosser_86 rfl tw_1068 cal_X11_mostOf tw_1070 tw_44 (by decide) rfl rfl (Nat.le_of_ble_eq_true rfl) hkq13 rfl (met_X11_mostOf o v1 v2 w _ hr12) ?_
              cases h
              exact ev_iret dX11_tellTosser_89 rfl rfl
            · rw [if_neg hc5] at h
              by_cases hc6 : v2 = 6
              · rw [if_pos hc6] at h
                refine ev_table_in (q := 90) (off := 89) dX11_tellTosser_1 (by rw [hc6]; decide) (by rw [hc6]; decide) (by rw [hc6]; rfl) (by decide) ?_
                refine ev_aload_n (q := 91) dX11_tellTosser_90 rfl rfl ?_
                refine ev_iload_n (q := 92) dX11_tellTosser_91 rfl rfl ?_
                replace h := Option.bind_eq_some_iff.mp h; obtain ⟨q15, hq15, h⟩ := h
                obtain ⟨hxq15, fsq15, hkq15⟩ := kO_spec hq15
                cases hxq15
                replace h := Option.bind_eq_some_iff.mp h; obtain ⟨r14, hr14, h⟩ := h
                refine ev_invV (M1 := M_X11_turnsOf) (as := [vi v1]) (fs := fsq15) (ci := 11) dX11_tellTosser_92 rfl tw_1079 cal_X11_turnsOf tw_1081 tw_46 (by decide) rfl rfl (Nat.le_of_ble_eq_true rfl) hkq15 rfl (met_X11_turnsOf o v1 w _ hr14) ?_
                cases h
                exact ev_iret dX11_tellTosser_95 rfl rfl
              · rw [if_neg hc6] at h
                by_cases hc7 : v2 = 7
                · rw [if_pos hc7] at h
                  refine ev_table_in (q := 96) (off := 95) dX11_tellTosser_1 (by rw [hc7]; decide) (by rw [hc7]; decide) (by rw [hc7]; rfl) (by decide) ?_
                  refine ev_aload_n (q := 97) dX11_tellTosser_96 rfl rfl ?_
                  refine ev_iload_n (q := 98) dX11_tellTosser_97 rfl rfl ?_
                  replace h := Option.bind_eq_some_iff.mp h; obtain ⟨q17, hq17, h⟩ := h
                  obtain ⟨hxq17, fsq17, hkq17⟩ := kO_spec hq17
                  cases hxq17
                  replace h := Option.bind_eq_some_iff.mp h; obtain ⟨r16, hr16, h⟩ := h
                  refine ev_invV (M1 := M_X11_aimOf) (as := [vi v1]) (fs := fsq17) (ci := 11) dX11_tellTosser_98 rfl tw_1086 cal_X11_aimOf tw_1088 tw_47 (by decide) rfl rfl (Nat.le_of_ble_eq_true rfl) hkq17 rfl (met_X11_aimOf o v1 w _ hr16) ?_
                  cases h
                  exact ev_iret dX11_tellTosser_101 rfl rfl
                · rw [if_neg hc7] at h
                  by_cases hc8 : v2 = 8
                  · rw [if_pos hc8] at h
                    refine ev_table_in (q := 102) (off := 101) dX11_tellTosser_1 (by rw [hc8]; decide) (by rw [hc8]; decide) (by rw [hc8]; rfl) (by decide) ?_
                    refine ev_aload_n (q := 103) dX11_tellTosser_102 rfl rfl ?_
                    replace h := Option.bind_eq_some_iff.mp h; obtain ⟨r18, hr18, h⟩ := h
                    refine ev_gR dX11_tellTosser_103 fl_X11_34 hr18 rfl ?_
                    refine ev_iload_n (q := 107) dX11_tellTosser_106 rfl rfl ?_
                    replace h := Option.bind_eq_some_iff.mp h; obtain ⟨r19, hr19, h⟩ := h
                    refine ev_aL dX11_tellTosser_107 hr19 rfl ?_
                    cases h
                    exact ev_iret dX11_tellTosser_108 rfl rfl
                  · rw [if_neg hc8] at h
                    refine ev_table_out (q := 109) dX11_tellTosser_1 (by have z0 := mNe (z := 0) (by decide) hc0; have z1 := mNe (z := 1) (by decide) hc1; have z2 := mNe (z := 2) (by decide) hc2; have z3 := mNe (z := 3) (by decide) hc3; have z4 := mNe (z := 4) (by decide) hc4; have z5 := mNe (z := 5) (by decide) hc5; have z6 := mNe (z := 6) (by decide) hc6; have z7 := mNe (z := 7) (by decide) hc7; have z8 := mNe (z := 8) (by decide) hc8; omega) (by decide) ?_
                    refine ev_bipush (q := 111) (v := (-102 : Int32)) dX11_tellTosser_109 rfl (by decide) ?_
                    cases h
                    exact ev_iret dX11_tellTosser_111 rfl rfl
def f_X10_digest_L180 (o : Nat) (w : mW) : Nat → Int64 → Int32 → Option (Int64)
  | 0, _, _ => none
  | n + 1, v1, v3 => if (11 : Int32) < v3 then (some (v1)) else (Option.bind (kO w (some o) 10) fun _ => Option.bind (f_X10_count o v3 w) fun r1 => (f_X10_digest_L180 o w n) (((31 : Int64) * v1) + r1.toInt64) (v3 + (1 : Int32)))
set_option maxRecDepth 100000 in
set_option maxHeartbeats 4000000 in
theorem e_X10_digest_L180 {X : mXs} {r : Option mV} {w' : mW} (P : (Int64) → Prop) (o : Nat) (w : mW) (hexit : ∀ y, P y → mEv X M_X10_digest 7 r w' 205 [none, some (vl y), none, none, none] [] w) : ∀ (n : Nat) (v1 : Int64) (v3 : Int32) (e : Int64), f_X10_digest_L180 o w n v1 v3 = some e → P e → mEv X M_X10_digest 7 r w' 180 [some (vr ((some o))), some (vl v1), none, some (vi v3), none] [] w := by
  intro n
  induction n with
  | zero =>
    intro v1 v3 e h hP
    rw [f_X10_digest_L180] at h
    cases h
  | succ n hk =>
    intro v1 v3 e h hP
    rw [f_X10_digest_L180] at h
    refine ev_iload_n (q := 181) dX10_digest_180 rfl rfl ?_
    refine ev_bipush (q := 183) (v := (11 : Int32)) dX10_digest_181 rfl (by decide) ?_
    by_cases hc : (11 : Int32) < v3
    · rw [if_pos hc] at h
      refine ev_icmp_gt_t (q := 205) dX10_digest_183 (by decide) hc ?_
      cases h
      exact ev_weak _ (mLe_none (mLe_some (mLe_none (mLe_none (mLe_none mLe_nil))))) (hexit _ hP)
    · rw [if_neg hc] at h
      refine ev_icmp_gt_f (q := 186) (t0 := 205) dX10_digest_183 (by decide) rfl hc ?_
      refine ev_ldc2 (q := 189) (v := (31 : Int64)) dX10_digest_186 rfl tw_810 ?_
      refine ev_lload_n (q := 190) dX10_digest_189 rfl rfl ?_
      refine ev_lmul (q := 191) dX10_digest_190 rfl ?_
      refine ev_aload_n (q := 192) dX10_digest_191 rfl rfl ?_
      refine ev_iload_n (q := 193) dX10_digest_192 rfl rfl ?_
      replace h := Option.bind_eq_some_iff.mp h; obtain ⟨q2, hq2, h⟩ := h
      obtain ⟨hxq2, fsq2, hkq2⟩ := kO_spec hq2
      cases hxq2
      replace h := Option.bind_eq_some_iff.mp h; obtain ⟨r1, hr1, h⟩ := h
      refine ev_invV (M1 := M_X10_count) (as := [vi v3]) (fs := fsq2) (ci := 10) dX10_digest_193 rfl tw_821 cal_X10_count tw_799 tw_800 (by decide) rfl rfl (Nat.le_of_ble_eq_true rfl) hkq2 rfl (met_X10_count o v3 w _ hr1) ?_
      refine ev_i2l (q := 197) dX10_digest_196 rfl ?_
      refine ev_ladd (q := 198) dX10_digest_197 rfl ?_
      refine ev_lstore_n (q := 199) dX10_digest_198 rfl (by decide) ?_
      refine ev_iinc (q := 202) (v := v3 + (1 : Int32)) dX10_digest_199 rfl (by decide) rfl (by rfl) ?_
      refine ev_goto (q := 180) dX10_digest_202 (by decide) ?_
      exact ev_weak _ (mLe_some (mLe_some (mLe_none (mLe_some (mLe_none mLe_nil))))) (hk (((31 : Int64) * v1) + r1.toInt64) (v3 + (1 : Int32)) _ h hP)
def f_X10_digest_L142 (o : Nat) (w : mW) : Nat → Int64 → Int32 → Option (Int64)
  | 0, _, _ => none
  | n + 1, v1, v3 => Option.bind (gR w (some o) 10 0) fun r3 => Option.bind (gI w r3 3 1) fun r4 => if r4 ≤ v3 then (some (v1)) else (Option.bind (gR w (some o) 10 0) fun r5 => Option.bind (gR w r5 3 0) fun r6 => Option.bind (f_X10_at r6 v3 w) fun r7 => (f_X10_digest_L142 o w n) (((31 : Int64) * v1) + r7.toInt64) (v3 + (1 : Int32)))
set_option maxRecDepth 100000 in
set_option maxHeartbeats 4000000 in
theorem e_X10_digest_L142 {X : mXs} {r : Option mV} {w' : mW} (P : (Int64) → Prop) (o : Nat) (w : mW) (hexit : ∀ y, P y → mEv X M_X10_digest 7 r w' 178 [some (vr ((some o))), some (vl y), none, none, none] [] w) : ∀ (n : Nat) (v1 : Int64) (v3 : Int32) (e : Int64), f_X10_digest_L142 o w n v1 v3 = some e → P e → mEv X M_X10_digest 7 r w' 142 [some (vr ((some o))), some (vl v1), none, some (vi v3), none] [] w := by
  intro n
  induction n with
  | zero =>
    intro v1 v3 e h hP
    rw [f_X10_digest_L142] at h
    cases h
  | succ n hk =>
    intro v1 v3 e h hP
    rw [f_X10_digest_L142] at h
    refine ev_iload_n (q := 143) dX10_digest_142 rfl rfl ?_
    refine ev_aload_n (q := 144) dX10_digest_143 rfl rfl ?_
    replace h := Option.bind_eq_some_iff.mp h; obtain ⟨r3, hr3, h⟩ := h
    refine ev_gR dX10_digest_144 fl_X10_10 hr3 rfl ?_
    replace h := Option.bind_eq_some_iff.mp h; obtain ⟨r4, hr4, h⟩ := h
    refine ev_gI dX10_digest_147 fl_X10_50 hr4 rfl ?_
    by_cases hc : r4 ≤ v3
    · rw [if_pos hc] at h
      refine ev_icmp_ge_t (q := 178) dX10_digest_150 (by decide) hc ?_
      cases h
      exact ev_weak _ (mLe_some (mLe_some (mLe_none (mLe_none (mLe_none mLe_nil))))) (hexit _ hP)
    · rw [if_neg hc] at h
      refine ev_icmp_ge_f (q := 153) (t0 := 178) dX10_digest_150 (by decide) rfl hc ?_
      refine ev_ldc2 (q := 156) (v := (31 : Int64)) dX10_digest_153 rfl tw_810 ?_
      refine ev_lload_n (q := 157) dX10_digest_156 rfl rfl ?_
      refine ev_lmul (q := 158) dX10_digest_157 rfl ?_
      refine ev_aload_n (q := 159) dX10_digest_158 rfl rfl ?_
      replace h := Option.bind_eq_some_iff.mp h; obtain ⟨r5, hr5, h⟩ := h
      refine ev_gR dX10_digest_159 fl_X10_10 hr5 rfl ?_
      replace h := Option.bind_eq_some_iff.mp h; obtain ⟨r6, hr6, h⟩ := h
      refine ev_gR dX10_digest_162 fl_X10_251 hr6 rfl ?_
      refine ev_iload_n (q := 166) dX10_digest_165 rfl rfl ?_
      replace h := Option.bind_eq_some_iff.mp h; obtain ⟨r7, hr7, h⟩ := h
      refine ev_invS (M1 := M_X10_at) (as := [vr r6, vi v3]) dX10_digest_166 rfl tw_460 cal_X10_at tw_308 (by decide) rfl rfl (Nat.le_of_ble_eq_true rfl) (met_X10_at r6 v3 w _ hr7) ?_
      refine ev_i2l (q := 170) dX10_digest_169 rfl ?_
      refine ev_ladd (q := 171) dX10_digest_170 rfl ?_
      refine ev_lstore_n (q := 172) dX10_digest_171 rfl (by decide) ?_
      refine ev_iinc (q := 175) (v := v3 + (1 : Int32)) dX10_digest_172 rfl (by decide) rfl (by rfl) ?_
      refine ev_goto (q := 142) dX10_digest_175 (by decide) ?_
      exact ev_weak _ (mLe_some (mLe_some (mLe_none (mLe_some (mLe_none mLe_nil))))) (hk (((31 : Int64) * v1) + r7.toInt64) (v3 + (1 : Int32)) _ h hP)
def f_X10_digest_J140 (o : Nat) (v1 : Int64) (w : mW) : Option (Int64 × mW) := Option.bind (f_X10_digest_L142 o w mFuel v1 (0 : Int32)) fun e8 => Option.bind (f_X10_digest_L180 o w mFuel e8 (0 : Int32)) fun e9 => some ((e9, w))
set_option maxRecDepth 100000 in
set_option maxHeartbeats 4000000 in
theorem e_X10_digest_J140 {X : mXs} (o : Nat) (v1 : Int64) (w : mW) (res : Int64 × mW) (h : f_X10_digest_J140 o v1 w = some res) : mEv X M_X10_digest 7 (some (vl res.1)) res.2 140 [some (vr ((some o))), some (vl v1), none, none, none] [] w := by
  unfold f_X10_digest_J140 at h
  refine ev_iconst (q := 141) (v := (0 : Int32)) dX10_digest_140 rfl (by decide) ?_
  refine ev_istore_n (q := 142) dX10_digest_141 rfl (by decide) ?_
  replace h := Option.bind_eq_some_iff.mp h; obtain ⟨e8, he8, h⟩ := h
  refine ev_weak _ (mLe_some (mLe_some (mLe_none (mLe_some (mLe_none mLe_nil))))) (e_X10_digest_L142 (fun z => e8 = z) o w (fun e8q hq => ?_) mFuel v1 (0 : Int32) _ he8 rfl)
  subst hq
  refine ev_iconst (q := 179) (v := (0 : Int32)) dX10_digest_178 rfl (by decide) ?_
  refine ev_istore_n (q := 180) dX10_digest_179 rfl (by decide) ?_
  replace h := Option.bind_eq_some_iff.mp h; obtain ⟨e9, he9, h⟩ := h
  refine ev_weak _ (mLe_some (mLe_some (mLe_none (mLe_some (mLe_none mLe_nil))))) (e_X10_digest_L180 (fun z => e9 = z) o w (fun e9q hq => ?_) mFuel e8 (0 : Int32) _ he9 rfl)
  subst hq
  refine ev_lload_n (q := 206) dX10_digest_205 rfl rfl ?_
  cases h
  exact ev_lret dX10_digest_206 rfl
def f_X10_digest_L63 (o : Nat) (v3 : Int32) (w : mW) : Nat → Int64 → Int32 → Option (Int64)
  | 0, _, _ => none
  | n + 1, v1, v4 => if (8 : Int32) < v4 then (some (v1)) else (Option.bind (kO w (some o) 10) fun _ => Option.bind (f_X10_tosser o v3 v4 w) fun r10 => (f_X10_digest_L63 o v3 w n) (((31 : Int64) * v1) + r10.toInt64) (v4 + (1 : Int32)))
set_option maxRecDepth 100000 in
set_option maxHeartbeats 4000000 in
theorem e_X10_digest_L63 {X : mXs} {r : Option mV} {w' : mW} (P : (Int64) → Prop) (o : Nat) (v3 : Int32) (w : mW) (hexit : ∀ y, P y → mEv X M_X10_digest 7 r w' 91 [some (vr ((some o))), some (vl y), none, some (vi v3), none] [] w) : ∀ (n : Nat) (v1 : Int64) (v4 : Int32) (e : Int64), f_X10_digest_L63 o v3 w n v1 v4 = some e → P e → mEv X M_X10_digest 7 r w' 63 [some (vr ((some o))), some (vl v1), none, some (vi v3), some (vi v4)] [] w := by
  intro n
  induction n with
  | zero =>
    intro v1 v4 e h hP
    rw [f_X10_digest_L63] at h
    cases h
  | succ n hk =>
    intro v1 v4 e h hP
    rw [f_X10_digest_L63] at h
    refine ev_iload (q := 65) dX10_digest_63 rfl rfl ?_
    refine ev_bipush (q := 67) (v := (8 : Int32)) dX10_digest_65 rfl (by decide) ?_
    by_cases hc : (8 : Int32) < v4
    · rw [if_pos hc] at h
      refine ev_icmp_gt_t (q := 91) dX10_digest_67 (by decide) hc ?_
      cases h
      exact ev_weak _ (mLe_some (mLe_some (mLe_none (mLe_some (mLe_none mLe_nil))))) (hexit _ hP)
    · rw [if_neg hc] at h
      refine ev_icmp_gt_f (q := 70) (t0 := 91) dX10_digest_67 (by decide) rfl hc ?_
      refine ev_ldc2 (q := 73) (v := (31 : Int64)) dX10_digest_70 rfl tw_810 ?_
      refine ev_lload_n (q := 74) dX10_digest_73 rfl rfl ?_
      refine ev_lmul (q := 75) dX10_digest_74 rfl ?_
      refine ev_aload_n (q := 76) dX10_digest_75 rfl rfl ?_
      refine ev_iload_n (q := 77) dX10_digest_76 rfl rfl ?_
      refine ev_iload (q := 79) dX10_digest_77 rfl rfl ?_
      replace h := Option.bind_eq_some_iff.mp h; obtain ⟨q11, hq11, h⟩ := h
      obtain ⟨hxq11, fsq11, hkq11⟩ := kO_spec hq11
      cases hxq11
      replace h := Option.bind_eq_some_iff.mp h; obtain ⟨r10, hr10, h⟩ := h
      refine ev_invV (M1 := M_X10_tosser) (as := [vi v3, vi v4]) (fs := fsq11) (ci := 10) dX10_digest_79 rfl tw_812 cal_X10_tosser tw_557 tw_558 (by decide) rfl rfl (Nat.le_of_ble_eq_true rfl) hkq11 rfl (met_X10_tosser o v3 v4 w _ hr10) ?_
      refine ev_i2l (q := 83) dX10_digest_82 rfl ?_
      refine ev_ladd (q := 84) dX10_digest_83 rfl ?_
      refine ev_lstore_n (q := 85) dX10_digest_84 rfl (by decide) ?_
      refine ev_iinc (q := 88) (v := v4 + (1 : Int32)) dX10_digest_85 rfl (by decide) rfl (by rfl) ?_
      refine ev_goto (q := 63) dX10_digest_88 (by decide) ?_
      exact ev_weak _ (mLe_some (mLe_some (mLe_none (mLe_some (mLe_some mLe_nil))))) (hk (((31 : Int64) * v1) + r10.toInt64) (v4 + (1 : Int32)) _ h hP)
def f_X10_digest_L52 (o : Nat) (w : mW) : Nat → Int64 → Int32 → Option (Int64)
  | 0, _, _ => none
  | n + 1, v1, v3 => Option.bind (gI w (some o) 10 8) fun r12 => if r12 ≤ v3 then (some (v1)) else (Option.bind (f_X10_digest_L63 o v3 w mFuel v1 (0 : Int32)) fun e13 => Option.bind (kO w (some o) 10) fun _ => Option.bind (f_X10_lands o v3 (14 : Int32) w) fun r14 => Option.bind (kO w (some o) 10) fun _ => Option.bind (f_X10_covers o v3 (14 : Int32) w) fun r16 => (f_X10_digest_L52 o w n) (((31 : Int64) * (((31 : Int64) * e13) + r14.toInt64)) + r16.toInt64) (v3 + (1 : Int32)))
set_option maxRecDepth 100000 in
set_option maxHeartbeats 4000000 in
theorem e_X10_digest_L52 {X : mXs} {r : Option mV} {w' : mW} (P : (Int64) → Prop) (o : Nat) (w : mW) (hexit : ∀ y, P y → mEv X M_X10_digest 7 r w' 127 [some (vr ((some o))), some (vl y), none, none, none] [] w) : ∀ (n : Nat) (v1 : Int64) (v3 : Int32) (e : Int64), f_X10_digest_L52 o w n v1 v3 = some e → P e → mEv X M_X10_digest 7 r w' 52 [some (vr ((some o))), some (vl v1), none, some (vi v3), none] [] w := by
  intro n
  induction n with
  | zero =>
    intro v1 v3 e h hP
    rw [f_X10_digest_L52] at h
    cases h
  | succ n hk =>
    intro v1 v3 e h hP
    rw [f_X10_digest_L52] at h
    refine ev_iload_n (q := 53) dX10_digest_52 rfl rfl ?_
    refine ev_aload_n (q := 54) dX10_digest_53 rfl rfl ?_
    replace h := Option.bind_eq_some_iff.mp h; obtain ⟨r12, hr12, h⟩ := h
    refine ev_gI dX10_digest_54 fl_X10_197 hr12 rfl ?_
    by_cases hc : r12 ≤ v3
    · rw [if_pos hc] at h
      refine ev_icmp_ge_t (q := 127) dX10_digest_57 (by decide) hc ?_
      cases h
      exact ev_weak _ (mLe_some (mLe_some (mLe_none (mLe_none (mLe_none mLe_nil))))) (hexit _ hP)
    · rw [if_neg hc] at h
      refine ev_icmp_ge_f (q := 60) (t0 := 127) dX10_digest_57 (by decide) rfl hc ?_
      refine ev_iconst (q := 61) (v := (0 : Int32)) dX10_digest_60 rfl (by decide) ?_
      refine ev_istore (q := 63) dX10_digest_61 rfl (by decide) ?_
      replace h := Option.bind_eq_some_iff.mp h; obtain ⟨e13, he13, h⟩ := h
      refine ev_weak _ (mLe_some (mLe_some (mLe_none (mLe_some (mLe_some mLe_nil))))) (e_X10_digest_L63 (fun z => e13 = z) o v3 w (fun e13q hq => ?_) mFuel v1 (0 : Int32) _ he13 rfl)
      subst hq
      refine ev_ldc2 (q := 94) (v := (31 : Int64)) dX10_digest_91 rfl tw_810 ?_
      refine ev_lload_n (q := 95) dX10_digest_94 rfl rfl ?_
      refine ev_lmul (q := 96) dX10_digest_95 rfl ?_
      refine ev_aload_n (q := 97) dX10_digest_96 rfl rfl ?_
      refine ev_iload_n (q := 98) dX10_digest_97 rfl rfl ?_
      refine ev_bipush (q := 100) (v := (14 : Int32)) dX10_digest_98 rfl (by decide) ?_
      replace h := Option.bind_eq_some_iff.mp h; obtain ⟨q15, hq15, h⟩ := h
      obtain ⟨hxq15, fsq15, hkq15⟩ := kO_spec hq15
      cases hxq15
      replace h := Option.bind_eq_some_iff.mp h; obtain ⟨r14, hr14, h⟩ := h
      refine ev_invV (M1 := M_X10_lands) (as := [vi v3, vi ((14 : Int32))]) (fs := fsq15) (ci := 10) dX10_digest_100 rfl tw_813 cal_X10_lands tw_643 tw_644 (by decide) rfl rfl (Nat.le_of_ble_eq_true rfl) hkq15 rfl (met_X10_lands o v3 (14 : Int32) w _ hr14) ?_
      refine ev_i2l (q := 104) dX10_digest_103 rfl ?_
      refine ev_ladd (q := 105) dX10_digest_104 rfl ?_
      refine ev_lstore_n (q := 106) dX10_digest_105 rfl (by decide) ?_
      refine ev_ldc2 (q := 109) (v := (31 : Int64)) dX10_digest_106 rfl tw_810 ?_
      refine ev_lload_n (q := 110) dX10_digest_109 rfl rfl ?_
      refine ev_lmul (q := 111) dX10_digest_110 rfl ?_
      refine ev_aload_n (q := 112) dX10_digest_111 rfl rfl ?_
      refine ev_iload_n (q := 113) dX10_digest_112 rfl rfl ?_
      refine ev_bipush (q := 115) (v := (14 : Int32)) dX10_digest_113 rfl (by decide) ?_
      replace h := Option.bind_eq_some_iff.mp h; obtain ⟨q17, hq17, h⟩ := h
      obtain ⟨hxq17, fsq17, hkq17⟩ := kO_spec hq17
      cases hxq17
      replace h := Option.bind_eq_some_iff.mp h; obtain ⟨r16, hr16, h⟩ := h
      refine ev_invV (M1 := M_X10_covers) (as := [vi v3, vi ((14 : Int32))]) (fs := fsq17) (ci := 10) dX10_digest_115 rfl tw_814 cal_X10_covers tw_659 tw_660 (by decide) rfl rfl (Nat.le_of_ble_eq_true rfl) hkq17 rfl (met_X10_covers o v3 (14 : Int32) w _ hr16) ?_
      refine ev_i2l (q := 119) dX10_digest_118 rfl ?_
      refine ev_ladd (q := 120) dX10_digest_119 rfl ?_
      refine ev_lstore_n (q := 121) dX10_digest_120 rfl (by decide) ?_
      refine ev_iinc (q := 124) (v := v3 + (1 : Int32)) dX10_digest_121 rfl (by decide) rfl (by rfl) ?_
      refine ev_goto (q := 52) dX10_digest_124 (by decide) ?_
      exact ev_weak _ (mLe_some (mLe_some (mLe_none (mLe_some (mLe_none mLe_nil))))) (hk (((31 : Int64) * (((31 : Int64) * e13) + r14.toInt64)) + r16.toInt64) (v3 + (1 : Int32)) _ h hP)
def f_X10_digest_L17 (o : Nat) (v3 : Int32) : Nat → Int64 → Int32 → mW → Option (Int64 × mW)
  | 0, _, _, _ => none
  | n + 1, v1, v4, w => if (4 : Int32) < v4 then (some ((v1, w))) else (Option.bind (kO w (some o) 10) fun _ => Option.bind (f_X10_sleeper o v3 v4 w) fun r18 => (f_X10_digest_L17 o v3 n) (((31 : Int64) * v1) + r18.1.toInt64) (v4 + (1 : Int32)) r18.2)
set_option maxRecDepth 100000 in
set_option maxHeartbeats 4000000 in
theorem e_X10_digest_L17 {X : mXs} {r : Option mV} {w' : mW} (P : (Int64 × mW) → Prop) (o : Nat) (v3 : Int32) (hexit : ∀ y, P y → mEv X M_X10_digest 7 r w' 44 [some (vr ((some o))), some (vl y.1), none, some (vi v3), none] [] y.2) : ∀ (n : Nat) (v1 : Int64) (v4 : Int32) (w : mW) (e : Int64 × mW), f_X10_digest_L17 o v3 n v1 v4 w = some e → P e → mEv X M_X10_digest 7 r w' 17 [some (vr ((some o))), some (vl v1), none, some (vi v3), some (vi v4)] [] w := by
  intro n
  induction n with
  | zero =>
    intro v1 v4 w e h hP
    rw [f_X10_digest_L17] at h
    cases h
  | succ n hk =>
    intro v1 v4 w e h hP
    rw [f_X10_digest_L17] at h
    refine ev_iload (q := 19) dX10_digest_17 rfl rfl ?_
    refine ev_iconst (q := 20) (v := (4 : Int32)) dX10_digest_19 rfl (by decide) ?_
    by_cases hc : (4 : Int32) < v4
    · rw [if_pos hc] at h
      refine ev_icmp_gt_t (q := 44) dX10_digest_20 (by decide) hc ?_
      cases h
      exact ev_weak _ (mLe_some (mLe_some (mLe_none (mLe_some (mLe_none mLe_nil))))) (hexit _ hP)
    · rw [if_neg hc] at h
      refine ev_icmp_gt_f (q := 23) (t0 := 44) dX10_digest_20 (by decide) rfl hc ?_
      refine ev_ldc2 (q := 26) (v := (31 : Int64)) dX10_digest_23 rfl tw_810 ?_
      refine ev_lload_n (q := 27) dX10_digest_26 rfl rfl ?_
      refine ev_lmul (q := 28) dX10_digest_27 rfl ?_
      refine ev_aload_n (q := 29) dX10_digest_28 rfl rfl ?_
      refine ev_iload_n (q := 30) dX10_digest_29 rfl rfl ?_
      refine ev_iload (q := 32) dX10_digest_30 rfl rfl ?_
      replace h := Option.bind_eq_some_iff.mp h; obtain ⟨q19, hq19, h⟩ := h
      obtain ⟨hxq19, fsq19, hkq19⟩ := kO_spec hq19
      cases hxq19
      replace h := Option.bind_eq_some_iff.mp h; obtain ⟨r18, hr18, h⟩ := h
      refine ev_invV (M1 := M_X10_sleeper) (as := [vi v3, vi v4]) (fs := fsq19) (ci := 10) dX10_digest_32 rfl tw_811 cal_X10_sleeper tw_499 tw_500 (by decide) rfl rfl (Nat.le_of_ble_eq_true rfl) hkq19 rfl (met_X10_sleeper o v3 v4 w _ hr18) ?_
      refine ev_i2l (q := 36) dX10_digest_35 rfl ?_
      refine ev_ladd (q := 37) dX10_digest_36 rfl ?_
      refine ev_lstore_n (q := 38) dX10_digest_37 rfl (by decide) ?_
      refine ev_iinc (q := 41) (v := v4 + (1 : Int32)) dX10_digest_38 rfl (by decide) rfl (by rfl) ?_
      refine ev_goto (q := 17) dX10_digest_41 (by decide) ?_
      exact ev_weak _ (mLe_some (mLe_some (mLe_none (mLe_some (mLe_some mLe_nil))))) (hk (((31 : Int64) * v1) + r18.1.toInt64) (v4 + (1 : Int32)) r18.2 _ h hP)
def f_X10_digest_L6 (o : Nat) : Nat → Int64 → Int32 → mW → Option (Int64 × mW)
  | 0, _, _, _ => none
  | n + 1, v1, v3, w => Option.bind (gI w (some o) 10 7) fun r20 => if r20 ≤ v3 then (some ((v1, w))) else (Option.bind (f_X10_digest_L17 o v3 mFuel v1 (0 : Int32) w) fun e21 => (f_X10_digest_L6 o n) e21.1 (v3 + (1 : Int32)) e21.2)
set_option maxRecDepth 100000 in
set_option maxHeartbeats 4000000 in
theorem e_X10_digest_L6 {X : mXs} {r : Option mV} {w' : mW} (P : (Int64 × mW) → Prop) (o : Nat) (hexit : ∀ y, P y → mEv X M_X10_digest 7 r w' 50 [some (vr ((some o))), some (vl y.1), none, none, none] [] y.2) : ∀ (n : Nat) (v1 : Int64) (v3 : Int32) (w : mW) (e : Int64 × mW), f_X10_digest_L6 o n v1 v3 w = some e → P e → mEv X M_X10_digest 7 r w' 6 [some (vr ((some o))), some (vl v1), none, some (vi v3), none] [] w := by
  intro n
  induction n with
  | zero =>
    intro v1 v3 w e h hP
    rw [f_X10_digest_L6] at h
    cases h
  | succ n hk =>
    intro v1 v3 w e h hP
    rw [f_X10_digest_L6] at h
    refine ev_iload_n (q := 7) dX10_digest_6 rfl rfl ?_
    refine ev_aload_n (q := 8) dX10_digest_7 rfl rfl ?_
    replace h := Option.bind_eq_some_iff.mp h; obtain ⟨r20, hr20, h⟩ := h
    refine ev_gI dX10_digest_8 fl_X10_72 hr20 rfl ?_
    by_cases hc : r20 ≤ v3
    · rw [if_pos hc] at h
      refine ev_icmp_ge_t (q := 50) dX10_digest_11 (by decide) hc ?_
      cases h
      exact ev_weak _ (mLe_some (mLe_some (mLe_none (mLe_none (mLe_none mLe_nil))))) (hexit _ hP)
    · rw [if_neg hc] at h
      refine ev_icmp_ge_f (q := 14) (t0 := 50) dX10_digest_11 (by decide) rfl hc ?_
      refine ev_iconst (q := 15) (v := (0 : Int32)) dX10_digest_14 rfl (by decide) ?_
      refine ev_istore (q := 17) dX10_digest_15 rfl (by decide) ?_
      replace h := Option.bind_eq_some_iff.mp h; obtain ⟨e21, he21, h⟩ := h
      refine ev_weak _ (mLe_some (mLe_some (mLe_none (mLe_some (mLe_some mLe_nil))))) (e_X10_digest_L17 (fun z => e21 = z) o v3 (fun e21q hq => ?_) mFuel v1 (0 : Int32) w _ he21 rfl)
      subst hq
      refine ev_iinc (q := 47) (v := v3 + (1 : Int32)) dX10_digest_44 rfl (by decide) rfl (by rfl) ?_
      refine ev_goto (q := 6) dX10_digest_47 (by decide) ?_
      exact ev_weak _ (mLe_some (mLe_some (mLe_none (mLe_some (mLe_none mLe_nil))))) (hk e21.1 (v3 + (1 : Int32)) e21.2 _ h hP)
def f_X10_digest (o : Nat) (w : mW) : Option (Int64 × mW) := Option.bind (f_X10_digest_L6 o mFuel (1217 : Int64) (0 : Int32) w) fun e22 => Option.bind (f_X10_digest_L52 o e22.2 mFuel e22.1 (0 : Int32)) fun e23 => Option.bind (kO e22.2 (some o) 10) fun _ => Option.bind (f_X10_hasPort o  e22.2) fun r24 => if r24 = 0 then (f_X10_digest_J140 o e23 e22.2) else (Option.bind (kO e22.2 (some o) 10) fun _ => Option.bind (f_X10_digestOfPlans o e23 e22.2) fun r26 => f_X10_digest_J140 o r26.1 r26.2)
set_option maxRecDepth 100000 in
set_option maxHeartbeats 4000000 in
theorem met_X10_digest (o : Nat) (w : mW) (res : Int64 × mW) (h : f_X10_digest o w = some res) : mMet M_X10_digest 7 [vr ((some o))] w (some (vl res.1)) res.2 := by
  refine ev_met (n := 4) (by decide) rfl fun X => ?_
  unfold f_X10_digest at h
  show mEv X M_X10_digest 7 _ _ 0 [some (vr ((some o))), none, none, none, none] [] w
  refine ev_ldc2 (q := 3) (v := (1217 : Int64)) dX10_digest_0 rfl tw_809 ?_
  refine ev_lstore_n (q := 4) dX10_digest_3 rfl (by decide) ?_
  refine ev_iconst (q := 5) (v := (0 : Int32)) dX10_digest_4 rfl (by decide) ?_
  refine ev_istore_n (q := 6) dX10_digest_5 rfl (by decide) ?_
  replace h := Option.bind_eq_some_iff.mp h; obtain ⟨e22, he22, h⟩ := h
  refine ev_weak _ (mLe_some (mLe_some (mLe_none (mLe_some (mLe_none mLe_nil))))) (e_X10_digest_L6 (fun z => e22 = z) o (fun e22q hq => ?_) mFuel (1217 : Int64) (0 : Int32) w _ he22 rfl)
  subst hq
  refine ev_iconst (q := 51) (v := (0 : Int32)) dX10_digest_50 rfl (by decide) ?_
  refine ev_istore_n (q := 52) dX10_digest_51 rfl (by decide) ?_
  replace h := Option.bind_eq_some_iff.mp h; obtain ⟨e23, he23, h⟩ := h
  refine ev_weak _ (mLe_some (mLe_some (mLe_none (mLe_some (mLe_none mLe_nil))))) (e_X10_digest_L52 (fun z => e23 = z) o e22.2 (fun e23q hq => ?_) mFuel e22.1 (0 : Int32) _ he23 rfl)
  subst hq
  refine ev_aload_n (q := 128) dX10_digest_127 rfl rfl ?_
  replace h := Option.bind_eq_some_iff.mp h; obtain ⟨q25, hq25, h⟩ := h
  obtain ⟨hxq25, fsq25, hkq25⟩ := kO_spec hq25
  cases hxq25
  replace h := Option.bind_eq_some_iff.mp h; obtain ⟨r24, hr24, h⟩ := h
  refine ev_invV (M1 := M_X10_hasPort) (as := []) (fs := fsq25) (ci := 10) dX10_digest_128 rfl tw_654 cal_X10_hasPort tw_656 tw_22 (by decide) rfl rfl (Nat.le_of_ble_eq_true rfl) hkq25 rfl (met_X10_hasPort o  e22.2 _ hr24) ?_
  by_cases hc : r24 = 0
  · rw [if_pos hc] at h
    refine ev_if_eq_t (q := 140) dX10_digest_131 (by decide) hc ?_
    exact ev_weak _ (mLe_some (mLe_some (mLe_none (mLe_none (mLe_none mLe_nil))))) (e_X10_digest_J140 o e23 e22.2 _ h)
  · rw [if_neg hc] at h
    refine ev_if_eq_f (q := 134) (t0 := 140) dX10_digest_131 (by decide) rfl hc ?_
    refine ev_aload_n (q := 135) dX10_digest_134 rfl rfl ?_
    refine ev_lload_n (q := 136) dX10_digest_135 rfl rfl ?_
    replace h := Option.bind_eq_some_iff.mp h; obtain ⟨q27, hq27, h⟩ := h
    obtain ⟨hxq27, fsq27, hkq27⟩ := kO_spec hq27
    cases hxq27
    replace h := Option.bind_eq_some_iff.mp h; obtain ⟨r26, hr26, h⟩ := h
    refine ev_invV (M1 := M_X10_digestOfPlans) (as := [vl e23]) (fs := fsq27) (ci := 10) dX10_digest_136 rfl tw_815 cal_X10_digestOfPlans tw_817 tw_28 (by decide) rfl rfl (Nat.le_of_ble_eq_true rfl) hkq27 rfl (met_X10_digestOfPlans o e23 e22.2 _ hr26) ?_
    refine ev_lstore_n (q := 140) dX10_digest_139 rfl (by decide) ?_
    exact ev_weak _ (mLe_some (mLe_some (mLe_none (mLe_none (mLe_none mLe_nil))))) (e_X10_digest_J140 o r26.1 r26.2 _ h)
def f_X10_fault (o : Nat) (w : mW) : Option (Int32 × mW) := Option.bind (gR w (some o) 10 1) fun r1 => Option.bind (gR w (some o) 10 0) fun r2 => Option.bind (kO w r1 5) fun q4 => Option.bind (f_X5_read q4 r2 w) fun r3 => some ((r3.1, r3.2))
set_option maxRecDepth 100000 in
set_option maxHeartbeats 4000000 in
theorem met_X10_fault (o : Nat) (w : mW) (res : Int32 × mW) (h : f_X10_fault o w = some res) : mMet M_X10_fault 7 [vr ((some o))] w (some (vi res.1)) res.2 := by
  refine ev_met (n := 0) (by decide) rfl fun X => ?_
  unfold f_X10_fault at h
  show mEv X M_X10_fault 7 _ _ 0 [some (vr ((some o)))] [] w
  refine ev_aload_n (q := 1) dX10_fault_0 rfl rfl ?_
  replace h := Option.bind_eq_some_iff.mp h; obtain ⟨r1, hr1, h⟩ := h
  refine ev_gR dX10_fault_1 fl_X10_19 hr1 rfl ?_
  refine ev_aload_n (q := 5) dX10_fault_4 rfl rfl ?_
  replace h := Option.bind_eq_some_iff.mp h; obtain ⟨r2, hr2, h⟩ := h
  refine ev_gR dX10_fault_5 fl_X10_10 hr2 rfl ?_
  replace h := Option.bind_eq_some_iff.mp h; obtain ⟨q4, hq4, h⟩ := h
  obtain ⟨hxq4, fsq4, hkq4⟩ := kO_spec hq4
  subst hxq4
  replace h := Option.bind_eq_some_iff.mp h; obtain ⟨r3, hr3, h⟩ := h
  refine ev_invV (M1 := M_X5_read) (as := [vr r2]) (fs := fsq4) (ci := 5) dX10_fault_8 rfl tw_303 cal_X5_read tw_304 tw_305 (by decide) rfl rfl (Nat.le_of_ble_eq_true rfl) hkq4 rfl (met_X5_read q4 r2 w _ hr3) ?_
  cases h
  exact ev_iret dX10_fault_11 rfl rfl
def f_X10_port_J31 (w : mW) : Option (Int32 × mW) := some (((-103 : Int32), w))
set_option maxRecDepth 100000 in
set_option maxHeartbeats 4000000 in
theorem e_X10_port_J31 {X : mXs} (w : mW) (res : Int32 × mW) (h : f_X10_port_J31 w = some res) : mEv X M_X10_port 7 (some (vi res.1)) res.2 31 [none] [] w := by
  unfold f_X10_port_J31 at h
  refine ev_bipush (q := 33) (v := (-103 : Int32)) dX10_port_31 rfl (by decide) ?_
  cases h
  exact ev_iret dX10_port_33 rfl rfl
def f_X10_port (o : Nat) (w : mW) : Option (Int32 × mW) := Option.bind (gR w (some o) 10 1) fun r1 => Option.bind (gR w (some o) 10 0) fun r2 => Option.bind (kO w r1 5) fun q4 => Option.bind (f_X5_read q4 r2 w) fun r3 => Option.bind (gR r3.2 (some o) 10 0) fun r5 => Option.bind (gI r3.2 r5 3 1) fun r6 => if r3.1 < r6 then (f_X10_port_J31 r3.2) else (Option.bind (gR r3.2 (some o) 10 1) fun r7 => Option.bind (kO r3.2 r7 5) fun q9 => Option.bind (f_X5_isWhole q9  r3.2) fun r8 => if r8 = 0 then (f_X10_port_J31 r3.2) else (Option.bind (kO r3.2 (some o) 10) fun _ => Option.bind (f_X10_settle o  r3.2) fun w10 => Option.bind (gR w10 (some o) 10 0) fun r12 => Option.bind (pI w10 r12 3 1 (0 : Int32)) fun w13 => Option.bind (gI w13 (some o) 10 9) fun r14 => Option.bind (pI w13 (some o) 10 9 (r14 + (1 : Int32))) fun w15 => Option.bind (gI w15 (some o) 10 7) fun r16 => some ((r16, w15))))
set_option maxRecDepth 100000 in
set_option maxHeartbeats 4000000 in
theorem met_X10_port (o : Nat) (w : mW) (res : Int32 × mW) (h : f_X10_port o w = some res) : mMet M_X10_port 7 [vr ((some o))] w (some (vi res.1)) res.2 := by
  refine ev_met (n := 0) (by decide) rfl fun X => ?_
  unfold f_X10_port at h
  show mEv X M_X10_port 7 _ _ 0 [some (vr ((some o)))] [] w
  refine ev_aload_n (q := 1) dX10_port_0 rfl rfl ?_
  replace h := Option.bind_eq_some_iff.mp h; obtain ⟨r1, hr1, h⟩ := h
  refine ev_gR dX10_port_1 fl_X10_19 hr1 rfl ?_
  refine ev_aload_n (q := 5) dX10_port_4 rfl rfl ?_
  replace h := Option.bind_eq_some_iff.mp h; obtain ⟨r2, hr2, h⟩ := h
  refine ev_gR dX10_port_5 fl_X10_10 hr2 rfl ?_
  replace h := Option.bind_eq_some_iff.mp h; obtain ⟨q4, hq4, h⟩ := h
  obtain ⟨hxq4, fsq4, hkq4⟩ := kO_spec hq4
  subst hxq4
  replace h := Option.bind_eq_some_iff.mp h; obtain ⟨r3, hr3, h⟩ := h
  refine ev_invV (M1 := M_X5_read) (as := [vr r2]) (fs := fsq4) (ci := 5) dX10_port_8 rfl tw_303 cal_X5_read tw_304 tw_305 (by decide) rfl rfl (Nat.le_of_ble_eq_true rfl) hkq4 rfl (met_X5_read q4 r2 w _ hr3) ?_
  refine ev_aload_n (q := 12) dX10_port_11 rfl rfl ?_
  replace h := Option.bind_eq_some_iff.mp h; obtain ⟨r5, hr5, h⟩ := h
  refine ev_gR dX10_port_12 fl_X10_10 hr5 rfl ?_
  replace h := Option.bind_eq_some_iff.mp h; obtain ⟨r6, hr6, h⟩ := h
  refine ev_gI dX10_port_15 fl_X10_50 hr6 rfl ?_
  by_cases hc : r3.1 < r6
  · rw [if_pos hc] at h
    refine ev_icmp_lt_t (q := 31) dX10_port_18 (by decide) hc ?_
    exact ev_weak _ (mLe_none mLe_nil) (e_X10_port_J31 r3.2 _ h)
  · rw [if_neg hc] at h
    refine ev_icmp_lt_f (q := 21) (t0 := 31) dX10_port_18 (by decide) rfl hc ?_
    refine ev_aload_n (q := 22) dX10_port_21 rfl rfl ?_
    replace h := Option.bind_eq_some_iff.mp h; obtain ⟨r7, hr7, h⟩ := h
    refine ev_gR dX10_port_22 fl_X10_19 hr7 rfl ?_
    replace h := Option.bind_eq_some_iff.mp h; obtain ⟨q9, hq9, h⟩ := h
    obtain ⟨hxq9, fsq9, hkq9⟩ := kO_spec hq9
    subst hxq9
    replace h := Option.bind_eq_some_iff.mp h; obtain ⟨r8, hr8, h⟩ := h
    refine ev_invV (M1 := M_X5_isWhole) (as := []) (fs := fsq9) (ci := 5) dX10_port_25 rfl tw_441 cal_X5_isWhole tw_442 tw_443 (by decide) rfl rfl (Nat.le_of_ble_eq_true rfl) hkq9 rfl (met_X5_isWhole q9  r3.2 _ hr8) ?_
    by_cases hc : r8 = 0
    · rw [if_pos hc] at h
      refine ev_if_ne_f (q := 31) (t0 := 34) dX10_port_28 (by decide) rfl hc ?_
      exact ev_weak _ (mLe_none mLe_nil) (e_X10_port_J31 r3.2 _ h)
    · rw [if_neg hc] at h
      refine ev_if_ne_t (q := 34) dX10_port_28 (by decide) hc ?_
      refine ev_aload_n (q := 35) dX10_port_34 rfl rfl ?_
      replace h := Option.bind_eq_some_iff.mp h; obtain ⟨q11, hq11, h⟩ := h
      obtain ⟨hxq11, fsq11, hkq11⟩ := kO_spec hq11
      cases hxq11
      replace h := Option.bind_eq_some_iff.mp h; obtain ⟨w10, hw10, h⟩ := h
      refine ev_invV (M1 := M_X10_settle) (as := []) (fs := fsq11) (ci := 10) dX10_port_35 rfl tw_445 cal_X10_settle tw_447 tw_8 (by decide) rfl rfl (Nat.le_of_ble_eq_true rfl) hkq11 rfl (met_X10_settle o  r3.2 _ hw10) ?_
      refine ev_aload_n (q := 39) dX10_port_38 rfl rfl ?_
      replace h := Option.bind_eq_some_iff.mp h; obtain ⟨r12, hr12, h⟩ := h
      refine ev_gR dX10_port_39 fl_X10_10 hr12 rfl ?_
      refine ev_iconst (q := 43) (v := (0 : Int32)) dX10_port_42 rfl (by decide) ?_
      replace h := Option.bind_eq_some_iff.mp h; obtain ⟨w13, hw13, h⟩ := h
      refine ev_pI dX10_port_43 fp_X10_50 hw13 rfl ?_
      refine ev_aload_n (q := 47) dX10_port_46 rfl rfl ?_
      refine ev_dup (q := 48) dX10_port_47 rfl rfl ?_
      replace h := Option.bind_eq_some_iff.mp h; obtain ⟨r14, hr14, h⟩ := h
      refine ev_gI dX10_port_48 fl_X10_69 hr14 rfl ?_
      refine ev_iconst (q := 52) (v := (1 : Int32)) dX10_port_51 rfl (by decide) ?_
      refine ev_iadd (q := 53) dX10_port_52 rfl ?_
      replace h := Option.bind_eq_some_iff.mp h; obtain ⟨w15, hw15, h⟩ := h
      refine ev_pI dX10_port_53 fp_X10_69 hw15 rfl ?_
      refine ev_aload_n (q := 57) dX10_port_56 rfl rfl ?_
      replace h := Option.bind_eq_some_iff.mp h; obtain ⟨r16, hr16, h⟩ := h
      refine ev_gI dX10_port_57 fl_X10_72 hr16 rfl ?_
      cases h
      exact ev_iret dX10_port_60 rfl rfl
def f_X11_all_J44 (s0 : Int32) (w : mW) : Option (Int32 × mW) := some ((s0, w))
set_option maxRecDepth 100000 in
set_option maxHeartbeats 4000000 in
theorem e_X11_all_J44 {X : mXs} (s0 : Int32) (w : mW) (res : Int32 × mW) (h : f_X11_all_J44 s0 w = some res) : mEv X M_X11_all 7 (some (vi res.1)) res.2 44 [none, none] [vi s0] w := by
  unfold f_X11_all_J44 at h
  cases h
  exact ev_iret dX11_all_44 rfl rfl
def f_X11_all_J27 (o : Nat) (v1 : Int32) (w : mW) : Option (Int32 × mW) := Option.bind (kO w (some o) 11) fun _ => Option.bind (f_X11_lacks o  w) fun r1 => if r1 = 0 then (Option.bind (kO w (some o) 11) fun _ => Option.bind (f_X11_allOf o v1 w) fun r3 => f_X11_all_J44 r3.1 r3.2) else (f_X11_all_J44 (-103 : Int32) w)
set_option maxRecDepth 100000 in
set_option maxHeartbeats 4000000 in
theorem e_X11_all_J27 {X : mXs} (o : Nat) (v1 : Int32) (w : mW) (res : Int32 × mW) (h : f_X11_all_J27 o v1 w = some res) : mEv X M_X11_all 7 (some (vi res.1)) res.2 27 [some (vr ((some o))), some (vi v1)] [] w := by
  unfold f_X11_all_J27 at h
  refine ev_aload_n (q := 28) dX11_all_27 rfl rfl ?_
  replace h := Option.bind_eq_some_iff.mp h; obtain ⟨q2, hq2, h⟩ := h
  obtain ⟨hxq2, fsq2, hkq2⟩ := kO_spec hq2
  cases hxq2
  replace h := Option.bind_eq_some_iff.mp h; obtain ⟨r1, hr1, h⟩ := h
  refine ev_invV (M1 := M_X11_lacks) (as := []) (fs := fsq2) (ci := 11) dX11_all_28 rfl tw_1104 cal_X11_lacks tw_1106 tw_48 (by decide) rfl rfl (Nat.le_of_ble_eq_true rfl) hkq2 rfl (met_X11_lacks o  w _ hr1) ?_
  by_cases hc : r1 = 0
  · rw [if_pos hc] at h
    refine ev_if_eq_t (q := 39) dX11_all_31 (by decide) hc ?_
    refine ev_aload_n (q := 40) dX11_all_39 rfl rfl ?_
    refine ev_iload_n (q := 41) dX11_all_40 rfl rfl ?_
    replace h := Option.bind_eq_some_iff.mp h; obtain ⟨q4, hq4, h⟩ := h
    obtain ⟨hxq4, fsq4, hkq4⟩ := kO_spec hq4
    cases hxq4
    replace h := Option.bind_eq_some_iff.mp h; obtain ⟨r3, hr3, h⟩ := h
    refine ev_invV (M1 := M_X11_allOf) (as := [vi v1]) (fs := fsq4) (ci := 11) dX11_all_41 rfl tw_1131 cal_X11_allOf tw_1133 tw_49 (by decide) rfl rfl (Nat.le_of_ble_eq_true rfl) hkq4 rfl (met_X11_allOf o v1 w _ hr3) ?_
    exact ev_weak _ (mLe_none (mLe_none mLe_nil)) (e_X11_all_J44 r3.1 r3.2 _ h)
  · rw [if_neg hc] at h
    refine ev_if_eq_f (q := 34) (t0 := 39) dX11_all_31 (by decide) rfl hc ?_
    refine ev_bipush (q := 36) (v := (-103 : Int32)) dX11_all_34 rfl (by decide) ?_
    refine ev_goto (q := 44) dX11_all_36 (by decide) ?_
    exact ev_weak _ (mLe_none (mLe_none mLe_nil)) (e_X11_all_J44 (-103 : Int32) w _ h)
def f_X11_all (o : Nat) (v1 : Int32) (w : mW) : Option (Int32 × mW) := Option.bind (f_X11_in v1.toInt64 (0 : Int64) (1 : Int64) w) fun r5 => if r5 = 0 then (Option.bind (f_X11_in v1.toInt64 (10 : Int64) (15 : Int64) w) fun r6 => if r6 = 0 then (some (((-102 : Int32), w))) else (f_X11_all_J27 o v1 w)) else (f_X11_all_J27 o v1 w)
set_option maxRecDepth 100000 in
set_option maxHeartbeats 4000000 in
theorem met_X11_all (o : Nat) (v1 : Int32) (w : mW) (res : Int32 × mW) (h : f_X11_all o v1 w = some res) : mMet M_X11_all 7 [vr ((some o)), vi v1] w (some (vi res.1)) res.2 := by
  refine ev_met (n := 0) (by decide) rfl fun X => ?_
  unfold f_X11_all at h
  show mEv X M_X11_all 7 _ _ 0 [some (vr ((some o))), some (vi v1)] [] w
  refine ev_iload_n (q := 1) dX11_all_0 rfl rfl ?_
  refine ev_i2l (q := 2) dX11_all_1 rfl ?_
  refine ev_lconst (q := 3) (v := (0 : Int64)) dX11_all_2 rfl (by decide) ?_
  refine ev_lconst (q := 4) (v := (1 : Int64)) dX11_all_3 rfl (by decide) ?_
  replace h := Option.bind_eq_some_iff.mp h; obtain ⟨r5, hr5, h⟩ := h
  refine ev_invS (M1 := M_X11_in) (as := [vl v1.toInt64, vl ((0 : Int64)), vl ((1 : Int64))]) dX11_all_4 rfl tw_954 cal_X11_in tw_955 (by decide) rfl rfl (Nat.le_of_ble_eq_true rfl) (met_X11_in v1.toInt64 (0 : Int64) (1 : Int64) w _ hr5) ?_
  by_cases hc : r5 = 0
  · rw [if_pos hc] at h
    refine ev_if_ne_f (q := 10) (t0 := 27) dX11_all_7 (by decide) rfl hc ?_
    refine ev_iload_n (q := 11) dX11_all_10 rfl rfl ?_
    refine ev_i2l (q := 12) dX11_all_11 rfl ?_
    refine ev_ldc2 (q := 15) (v := (10 : Int64)) dX11_all_12 rfl tw_1129 ?_
    refine ev_ldc2 (q := 18) (v := (15 : Int64)) dX11_all_15 rfl tw_1130 ?_
    replace h := Option.bind_eq_some_iff.mp h; obtain ⟨r6, hr6, h⟩ := h
    refine ev_invS (M1 := M_X11_in) (as := [vl v1.toInt64, vl ((10 : Int64)), vl ((15 : Int64))]) dX11_all_18 rfl tw_954 cal_X11_in tw_955 (by decide) rfl rfl (Nat.le_of_ble_eq_true rfl) (met_X11_in v1.toInt64 (10 : Int64) (15 : Int64) w _ hr6) ?_
    by_cases hc : r6 = 0
    · rw [if_pos hc] at h
      refine ev_if_ne_f (q := 24) (t0 := 27) dX11_all_21 (by decide) rfl hc ?_
      refine ev_bipush (q := 26) (v := (-102 : Int32)) dX11_all_24 rfl (by decide) ?_
      cases h
      exact ev_iret dX11_all_26 rfl rfl
    · rw [if_neg hc] at h
      refine ev_if_ne_t (q := 27) dX11_all_21 (by decide) hc ?_
      exact ev_weak _ (mLe_some (mLe_some mLe_nil)) (e_X11_all_J27 o v1 w _ h)
  · rw [if_neg hc] at h
    refine ev_if_ne_t (q := 27) dX11_all_7 (by decide) hc ?_
    exact ev_weak _ (mLe_some (mLe_some mLe_nil)) (e_X11_all_J27 o v1 w _ h)
def f_X11_nights_J16 (s0 : Int32) (w : mW) : Option (Int32 × mW) := some ((s0, w))
set_option maxRecDepth 100000 in
set_option maxHeartbeats 4000000 in
theorem e_X11_nights_J16 {X : mXs} (s0 : Int32) (w : mW) (res : Int32 × mW) (h : f_X11_nights_J16 s0 w = some res) : mEv X M_X11_nights 7 (some (vi res.1)) res.2 16 [none] [vi s0] w := by
  unfold f_X11_nights_J16 at h
  cases h
  exact ev_iret dX11_nights_16 rfl rfl
def f_X11_nights (o : Nat) (w : mW) : Option (Int32 × mW) := Option.bind (kO w (some o) 11) fun _ => Option.bind (f_X11_lacks o  w) fun r1 => if r1 = 0 then (Option.bind (kO w (some o) 11) fun _ => Option.bind (f_X11_nightsOf o  w) fun r3 => f_X11_nights_J16 r3.1 r3.2) else (f_X11_nights_J16 (-103 : Int32) w)
set_option maxRecDepth 100000 in
set_option maxHeartbeats 4000000 in
theorem met_X11_nights (o : Nat) (w : mW) (res : Int32 × mW) (h : f_X11_nights o w = some res) : mMet M_X11_nights 7 [vr ((some o))] w (some (vi res.1)) res.2 := by
  refine ev_met (n := 0) (by decide) rfl fun X => ?_
  unfold f_X11_nights at h
  show mEv X M_X11_nights 7 _ _ 0 [some (vr ((some o)))] [] w
  refine ev_aload_n (q := 1) dX11_nights_0 rfl rfl ?_
  replace h := Option.bind_eq_some_iff.mp h; obtain ⟨q2, hq2, h⟩ := h
  obtain ⟨hxq2, fsq2, hkq2⟩ := kO_spec hq2
  cases hxq2
  replace h := Option.bind_eq_some_iff.mp h; obtain ⟨r1, hr1, h⟩ := h
  refine ev_invV (M1 := M_X11_lacks) (as := []) (fs := fsq2) (ci := 11) dX11_nights_1 rfl tw_1104 cal_X11_lacks tw_1106 tw_48 (by decide) rfl rfl (Nat.le_of_ble_eq_true rfl) hkq2 rfl (met_X11_lacks o  w _ hr1) ?_
  by_cases hc : r1 = 0
  · rw [if_pos hc] at h
    refine ev_if_eq_t (q := 12) dX11_nights_4 (by decide) hc ?_
    refine ev_aload_n (q := 13) dX11_nights_12 rfl rfl ?_
    replace h := Option.bind_eq_some_iff.mp h; obtain ⟨q4, hq4, h⟩ := h
    obtain ⟨hxq4, fsq4, hkq4⟩ := kO_spec hq4
    cases hxq4
    replace h := Option.bind_eq_some_iff.mp h; obtain ⟨r3, hr3, h⟩ := h
    refine ev_invV (M1 := M_X11_nightsOf) (as := []) (fs := fsq4) (ci := 11) dX11_nights_13 rfl tw_1152 cal_X11_nightsOf tw_1154 tw_53 (by decide) rfl rfl (Nat.le_of_ble_eq_true rfl) hkq4 rfl (met_X11_nightsOf o  w _ hr3) ?_
    exact ev_weak _ (mLe_none mLe_nil) (e_X11_nights_J16 r3.1 r3.2 _ h)
  · rw [if_neg hc] at h
    refine ev_if_eq_f (q := 7) (t0 := 12) dX11_nights_4 (by decide) rfl hc ?_
    refine ev_bipush (q := 9) (v := (-103 : Int32)) dX11_nights_7 rfl (by decide) ?_
    refine ev_goto (q := 16) dX11_nights_9 (by decide) ?_
    exact ev_weak _ (mLe_none mLe_nil) (e_X11_nights_J16 (-103 : Int32) w _ h)
def f_X11_sayPort_L23 (o : Nat) : Nat → Int32 → mW → Option (mW)
  | 0, _, _ => none
  | n + 1, v1, w => if (16 : Int32) ≤ v1 then (some (w)) else (Option.bind (kO w (some o) 11) fun _ => Option.bind (f_X11_allOf o v1 w) fun r1 => Option.bind (kO r1.2 (some o) 11) fun _ => Option.bind (f_X11_say o r1.1.toInt64 r1.2) fun w3 => (f_X11_sayPort_L23 o n) (v1 + (1 : Int32)) w3)
set_option maxRecDepth 100000 in
set_option maxHeartbeats 4000000 in
theorem e_X11_sayPort_L23 {X : mXs} {r : Option mV} {w' : mW} (P : (mW) → Prop) (o : Nat) (hexit : ∀ y, P y → mEv X M_X11_sayPort 7 r w' 45 [some (vr ((some o))), none] [] y) : ∀ (n : Nat) (v1 : Int32) (w : mW) (e : mW), f_X11_sayPort_L23 o n v1 w = some e → P e → mEv X M_X11_sayPort 7 r w' 23 [some (vr ((some o))), some (vi v1)] [] w := by
  intro n
  induction n with
  | zero =>
    intro v1 w e h hP
    rw [f_X11_sayPort_L23] at h
    cases h
  | succ n hk =>
    intro v1 w e h hP
    rw [f_X11_sayPort_L23] at h
    refine ev_iload_n (q := 24) dX11_sayPort_23 rfl rfl ?_
    refine ev_bipush (q := 26) (v := (16 : Int32)) dX11_sayPort_24 rfl (by decide) ?_
    by_cases hc : (16 : Int32) ≤ v1
    · rw [if_pos hc] at h
      refine ev_icmp_ge_t (q := 45) dX11_sayPort_26 (by decide) hc ?_
      cases h
      exact ev_weak _ (mLe_some (mLe_none mLe_nil)) (hexit _ hP)
    · rw [if_neg hc] at h
      refine ev_icmp_ge_f (q := 29) (t0 := 45) dX11_sayPort_26 (by decide) rfl hc ?_
      refine ev_aload_n (q := 30) dX11_sayPort_29 rfl rfl ?_
      refine ev_aload_n (q := 31) dX11_sayPort_30 rfl rfl ?_
      refine ev_iload_n (q := 32) dX11_sayPort_31 rfl rfl ?_
      replace h := Option.bind_eq_some_iff.mp h; obtain ⟨q2, hq2, h⟩ := h
      obtain ⟨hxq2, fsq2, hkq2⟩ := kO_spec hq2
      cases hxq2
      replace h := Option.bind_eq_some_iff.mp h; obtain ⟨r1, hr1, h⟩ := h
      refine ev_invV (M1 := M_X11_allOf) (as := [vi v1]) (fs := fsq2) (ci := 11) dX11_sayPort_32 rfl tw_1131 cal_X11_allOf tw_1133 tw_49 (by decide) rfl rfl (Nat.le_of_ble_eq_true rfl) hkq2 rfl (met_X11_allOf o v1 w _ hr1) ?_
      refine ev_i2l (q := 36) dX11_sayPort_35 rfl ?_
      replace h := Option.bind_eq_some_iff.mp h; obtain ⟨q4, hq4, h⟩ := h
      obtain ⟨hxq4, fsq4, hkq4⟩ := kO_spec hq4
      cases hxq4
      replace h := Option.bind_eq_some_iff.mp h; obtain ⟨w3, hw3, h⟩ := h
      refine ev_invV (M1 := M_X11_say) (as := [vl r1.1.toInt64]) (fs := fsq4) (ci := 11) dX11_sayPort_36 rfl tw_1217 cal_X11_say tw_1219 tw_58 (by decide) rfl rfl (Nat.le_of_ble_eq_true rfl) hkq4 rfl (met_X11_say o r1.1.toInt64 r1.2 _ hw3) ?_
      refine ev_iinc (q := 42) (v := v1 + (1 : Int32)) dX11_sayPort_39 rfl (by decide) rfl (by rfl) ?_
      refine ev_goto (q := 23) dX11_sayPort_42 (by decide) ?_
      exact ev_weak _ (mLe_some (mLe_some mLe_nil)) (hk (v1 + (1 : Int32)) w3 _ h hP)
def f_X11_sayPort (o : Nat) (w : mW) : Option (mW) := Option.bind (kO w (some o) 11) fun _ => Option.bind (f_X11_allOf o (0 : Int32) w) fun r5 => Option.bind (kO r5.2 (some o) 11) fun _ => Option.bind (f_X11_say o r5.1.toInt64 r5.2) fun w7 => Option.bind (kO w7 (some o) 11) fun _ => Option.bind (f_X11_allOf o (1 : Int32) w7) fun r9 => Option.bind (kO r9.2 (some o) 11) fun _ => Option.bind (f_X11_say o r9.1.toInt64 r9.2) fun w11 => Option.bind (f_X11_sayPort_L23 o mFuel (10 : Int32) w11) fun e13 => Option.bind (kO e13 (some o) 11) fun _ => Option.bind (f_X11_nightsOf o  e13) fun r14 => Option.bind (kO r14.2 (some o) 11) fun _ => Option.bind (f_X11_say o r14.1.toInt64 r14.2) fun w16 => Option.bind (kO w16 (some o) 11) fun _ => Option.bind (f_X11_whoOf o (0 : Int32) w16) fun r18 => Option.bind (kO w16 (some o) 11) fun _ => Option.bind (f_X11_say o r18.toInt64 w16) fun w20 => Option.bind (kO w20 (some o) 11) fun _ => Option.bind (f_X11_whoOf o (21 : Int32) w20) fun r22 => Option.bind (kO w20 (some o) 11) fun _ => Option.bind (f_X11_say o r22.toInt64 w20) fun w24 => some (w24)
set_option maxRecDepth 100000 in
set_option maxHeartbeats 4000000 in
theorem met_X11_sayPort (o : Nat) (w : mW) (res : mW) (h : f_X11_sayPort o w = some res) : mMet M_X11_sayPort 7 [vr ((some o))] w none res := by
  refine ev_met (n := 1) (by decide) rfl fun X => ?_
  unfold f_X11_sayPort at h
  show mEv X M_X11_sayPort 7 _ _ 0 [some (vr ((some o))), none] [] w
  refine ev_aload_n (q := 1) dX11_sayPort_0 rfl rfl ?_
  refine ev_aload_n (q := 2) dX11_sayPort_1 rfl rfl ?_
  refine ev_iconst (q := 3) (v := (0 : Int32)) dX11_sayPort_2 rfl (by decide) ?_
  replace h := Option.bind_eq_some_iff.mp h; obtain ⟨q6, hq6, h⟩ := h
  obtain ⟨hxq6, fsq6, hkq6⟩ := kO_spec hq6
  cases hxq6
  replace h := Option.bind_eq_some_iff.mp h; obtain ⟨r5, hr5, h⟩ := h
  refine ev_invV (M1 := M_X11_allOf) (as := [vi ((0 : Int32))]) (fs := fsq6) (ci := 11) dX11_sayPort_3 rfl tw_1131 cal_X11_allOf tw_1133 tw_49 (by decide) rfl rfl (Nat.le_of_ble_eq_true rfl) hkq6 rfl (met_X11_allOf o (0 : Int32) w _ hr5) ?_
  refine ev_i2l (q := 7) dX11_sayPort_6 rfl ?_
  replace h := Option.bind_eq_some_iff.mp h; obtain ⟨q8, hq8, h⟩ := h
  obtain ⟨hxq8, fsq8, hkq8⟩ := kO_spec hq8
  cases hxq8
  replace h := Option.bind_eq_some_iff.mp h; obtain ⟨w7, hw7, h⟩ := h
  refine ev_invV (M1 := M_X11_say) (as := [vl r5.1.toInt64]) (fs := fsq8) (ci := 11) dX11_sayPort_7 rfl tw_1217 cal_X11_say tw_1219 tw_58 (by decide) rfl rfl (Nat.le_of_ble_eq_true rfl) hkq8 rfl (met_X11_say o r5.1.toInt64 r5.2 _ hw7) ?_
  refine ev_aload_n (q := 11) dX11_sayPort_10 rfl rfl ?_
  refine ev_aload_n (q := 12) dX11_sayPort_11 rfl rfl ?_
  refine ev_iconst (q := 13) (v := (1 : Int32)) dX11_sayPort_12 rfl (by decide) ?_
  replace h := Option.bind_eq_some_iff.mp h; obtain ⟨q10, hq10, h⟩ := h
  obtain ⟨hxq10, fsq10, hkq10⟩ := kO_spec hq10
  cases hxq10
  replace h := Option.bind_eq_some_iff.mp h; obtain ⟨r9, hr9, h⟩ := h
  refine ev_invV (M1 := M_X11_allOf) (as := [vi ((1 : Int32))]) (fs := fsq10) (ci := 11) dX11_sayPort_13 rfl tw_1131 cal_X11_allOf tw_1133 tw_49 (by decide) rfl rfl (Nat.le_of_ble_eq_true rfl) hkq10 rfl (met_X11_allOf o (1 : Int32) w7 _ hr9) ?_
  refine ev_i2l (q := 17) dX11_sayPort_16 rfl ?_
  replace h := Option.bind_eq_some_iff.mp h; obtain ⟨q12, hq12, h⟩ := h
  obtain ⟨hxq12, fsq12, hkq12⟩ := kO_spec hq12
  cases hxq12
  replace h := Option.bind_eq_some_iff.mp h; obtain ⟨w11, hw11, h⟩ := h
  refine ev_invV (M1 := M_X11_say) (as := [vl r9.1.toInt64]) (fs := fsq12) (ci := 11) dX11_sayPort_17 rfl tw_1217 cal_X11_say tw_1219 tw_58 (by decide) rfl rfl (Nat.le_of_ble_eq_true rfl) hkq12 rfl (met_X11_say o r9.1.toInt64 r9.2 _ hw11) ?_
  refine ev_bipush (q := 22) (v := (10 : Int32)) dX11_sayPort_20 rfl (by decide) ?_
  refine ev_istore_n (q := 23) dX11_sayPort_22 rfl (by decide) ?_
  replace h := Option.bind_eq_some_iff.mp h; obtain ⟨e13, he13, h⟩ := h
  refine ev_weak _ (mLe_some (mLe_some mLe_nil)) (e_X11_sayPort_L23 (fun z => e13 = z) o (fun e13q hq => ?_) mFuel (10 : Int32) w11 _ he13 rfl)
  subst hq
  refine ev_aload_n (q := 46) dX11_sayPort_45 rfl rfl ?_
  refine ev_aload_n (q := 47) dX11_sayPort_46 rfl rfl ?_
  replace h := Option.bind_eq_some_iff.mp h; obtain ⟨q15, hq15, h⟩ := h
  obtain ⟨hxq15, fsq15, hkq15⟩ := kO_spec hq15
  cases hxq15
  replace h := Option.bind_eq_some_iff.mp h; obtain ⟨r14, hr14, h⟩ := h
  refine ev_invV (M1 := M_X11_nightsOf) (as := []) (fs := fsq15) (ci := 11) dX11_sayPort_47 rfl tw_1152 cal_X11_nightsOf tw_1154 tw_53 (by decide) rfl rfl (Nat.le_of_ble_eq_true rfl) hkq15 rfl (met_X11_nightsOf o  e13 _ hr14) ?_
  refine ev_i2l (q := 51) dX11_sayPort_50 rfl ?_
  replace h := Option.bind_eq_some_iff.mp h; obtain ⟨q17, hq17, h⟩ := h
  obtain ⟨hxq17, fsq17, hkq17⟩ := kO_spec hq17
  cases hxq17
  replace h := Option.bind_eq_some_iff.mp h; obtain ⟨w16, hw16, h⟩ := h
  refine ev_invV (M1 := M_X11_say) (as := [vl r14.1.toInt64]) (fs := fsq17) (ci := 11) dX11_sayPort_51 rfl tw_1217 cal_X11_say tw_1219 tw_58 (by decide) rfl rfl (Nat.le_of_ble_eq_true rfl) hkq17 rfl (met_X11_say o r14.1.toInt64 r14.2 _ hw16) ?_
  refine ev_aload_n (q := 55) dX11_sayPort_54 rfl rfl ?_
  refine ev_aload_n (q := 56) dX11_sayPort_55 rfl rfl ?_
  refine ev_iconst (q := 57) (v := (0 : Int32)) dX11_sayPort_56 rfl (by decide) ?_
  replace h := Option.bind_eq_some_iff.mp h; obtain ⟨q19, hq19, h⟩ := h
  obtain ⟨hxq19, fsq19, hkq19⟩ := kO_spec hq19
  cases hxq19
  replace h := Option.bind_eq_some_iff.mp h; obtain ⟨r18, hr18, h⟩ := h
  refine ev_invV (M1 := M_X11_whoOf) (as := [vi ((0 : Int32))]) (fs := fsq19) (ci := 11) dX11_sayPort_57 rfl tw_1164 cal_X11_whoOf tw_1166 tw_54 (by decide) rfl rfl (Nat.le_of_ble_eq_true rfl) hkq19 rfl (met_X11_whoOf o (0 : Int32) w16 _ hr18) ?_
  refine ev_i2l (q := 61) dX11_sayPort_60 rfl ?_
  replace h := Option.bind_eq_some_iff.mp h; obtain ⟨q21, hq21, h⟩ := h
  obtain ⟨hxq21, fsq21, hkq21⟩ := kO_spec hq21
  cases hxq21
  replace h := Option.bind_eq_some_iff.mp h; obtain ⟨w20, hw20, h⟩ := h
  refine ev_invV (M1 := M_X11_say) (as := [vl r18.toInt64]) (fs := fsq21) (ci := 11) dX11_sayPort_61 rfl tw_1217 cal_X11_say tw_1219 tw_58 (by decide) rfl rfl (Nat.le_of_ble_eq_true rfl) hkq21 rfl (met_X11_say o r18.toInt64 w16 _ hw20) ?_
  refine ev_aload_n (q := 65) dX11_sayPort_64 rfl rfl ?_
  refine ev_aload_n (q := 66) dX11_sayPort_65 rfl rfl ?_
  refine ev_bipush (q := 68) (v := (21 : Int32)) dX11_sayPort_66 rfl (by decide) ?_
  replace h := Option.bind_eq_some_iff.mp h; obtain ⟨q23, hq23, h⟩ := h
  obtain ⟨hxq23, fsq23, hkq23⟩ := kO_spec hq23
  cases hxq23
  replace h := Option.bind_eq_some_iff.mp h; obtain ⟨r22, hr22, h⟩ := h
  refine ev_invV (M1 := M_X11_whoOf) (as := [vi ((21 : Int32))]) (fs := fsq23) (ci := 11) dX11_sayPort_68 rfl tw_1164 cal_X11_whoOf tw_1166 tw_54 (by decide) rfl rfl (Nat.le_of_ble_eq_true rfl) hkq23 rfl (met_X11_whoOf o (21 : Int32) w20 _ hr22) ?_
  refine ev_i2l (q := 72) dX11_sayPort_71 rfl ?_
  replace h := Option.bind_eq_some_iff.mp h; obtain ⟨q25, hq25, h⟩ := h
  obtain ⟨hxq25, fsq25, hkq25⟩ := kO_spec hq25
  cases hxq25
  replace h := Option.bind_eq_some_iff.mp h; obtain ⟨w24, hw24, h⟩ := h
  refine ev_invV (M1 := M_X11_say) (as := [vl r22.toInt64]) (fs := fsq25) (ci := 11) dX11_sayPort_72 rfl tw_1217 cal_X11_say tw_1219 tw_58 (by decide) rfl rfl (Nat.le_of_ble_eq_true rfl) hkq25 rfl (met_X11_say o r22.toInt64 w20 _ hw24) ?_
  cases h
  exact ev_vret dX11_sayPort_75 rfl
def f_X11_sayTosser_L2 (o : Nat) (v1 : Int32) : Nat → Int32 → mW → Option (mW)
  | 0, _, _ => none
  | n + 1, v2, w => if (9 : Int32) ≤ v2 then (some (w)) else (Option.bind (kO w (some o) 11) fun _ => Option.bind (f_X11_tellTosser o v1 v2 w) fun r1 => Option.bind (kO w (some o) 11) fun _ => Option.bind (f_X11_say o r1.toInt64 w) fun w3 => (f_X11_sayTosser_L2 o v1 n) (v2 + (1 : Int32)) w3)
set_option maxRecDepth 100000 in
set_option maxHeartbeats 4000000 in
theorem e_X11_sayTosser_L2 {X : mXs} {r : Option mV} {w' : mW} (P : (mW) → Prop) (o : Nat) (v1 : Int32) (hexit : ∀ y, P y → mEv X M_X11_sayTosser 7 r w' 25 [some (vr ((some o))), some (vi v1), none] [] y) : ∀ (n : Nat) (v2 : Int32) (w : mW) (e : mW), f_X11_sayTosser_L2 o v1 n v2 w = some e → P e → mEv X M_X11_sayTosser 7 r w' 2 [some (vr ((some o))), some (vi v1), some (vi v2)] [] w := by
  intro n
  induction n with
  | zero =>
    intro v2 w e h hP
    rw [f_X11_sayTosser_L2] at h
    cases h
  | succ n hk =>
    intro v2 w e h hP
    rw [f_X11_sayTosser_L2] at h
    refine ev_iload_n (q := 3) dX11_sayTosser_2 rfl rfl ?_
    refine ev_bipush (q := 5) (v := (9 : Int32)) dX11_sayTosser_3 rfl (by decide) ?_
    by_cases hc : (9 : Int32) ≤ v2
    · rw [if_pos hc] at h
      refine ev_icmp_ge_t (q := 25) dX11_sayTosser_5 (by decide) hc ?_
      cases h
      exact ev_weak _ (mLe_some (mLe_some (mLe_none mLe_nil))) (hexit _ hP)
    · rw [if_neg hc] at h
      refine ev_icmp_ge_f (q := 8) (t0 := 25) dX11_sayTosser_5 (by decide) rfl hc ?_
      refine ev_aload_n (q := 9) dX11_sayTosser_8 rfl rfl ?_
      refine ev_aload_n (q := 10) dX11_sayTosser_9 rfl rfl ?_
      refine ev_iload_n (q := 11) dX11_sayTosser_10 rfl rfl ?_
      refine ev_iload_n (q := 12) dX11_sayTosser_11 rfl rfl ?_
      replace h := Option.bind_eq_some_iff.mp h; obtain ⟨q2, hq2, h⟩ := h
      obtain ⟨hxq2, fsq2, hkq2⟩ := kO_spec hq2
      cases hxq2
      replace h := Option.bind_eq_some_iff.mp h; obtain ⟨r1, hr1, h⟩ := h
      refine ev_invV (M1 := M_X11_tellTosser) (as := [vi v1, vi v2]) (fs := fsq2) (ci := 11) dX11_sayTosser_12 rfl tw_1061 cal_X11_tellTosser tw_1063 tw_43 (by decide) rfl rfl (Nat.le_of_ble_eq_true rfl) hkq2 rfl (met_X11_tellTosser o v1 v2 w _ hr1) ?_
      refine ev_i2l (q := 16) dX11_sayTosser_15 rfl ?_
      replace h := Option.bind_eq_some_iff.mp h; obtain ⟨q4, hq4, h⟩ := h
      obtain ⟨hxq4, fsq4, hkq4⟩ := kO_spec hq4
      cases hxq4
      replace h := Option.bind_eq_some_iff.mp h; obtain ⟨w3, hw3, h⟩ := h
      refine ev_invV (M1 := M_X11_say) (as := [vl r1.toInt64]) (fs := fsq4) (ci := 11) dX11_sayTosser_16 rfl tw_1217 cal_X11_say tw_1219 tw_58 (by decide) rfl rfl (Nat.le_of_ble_eq_true rfl) hkq4 rfl (met_X11_say o r1.toInt64 w _ hw3) ?_
      refine ev_iinc (q := 22) (v := v2 + (1 : Int32)) dX11_sayTosser_19 rfl (by decide) rfl (by rfl) ?_
      refine ev_goto (q := 2) dX11_sayTosser_22 (by decide) ?_
      exact ev_weak _ (mLe_some (mLe_some (mLe_some mLe_nil))) (hk (v2 + (1 : Int32)) w3 _ h hP)
def f_X11_sayTosser (o : Nat) (v1 : Int32) (w : mW) : Option (mW) := Option.bind (f_X11_sayTosser_L2 o v1 mFuel (0 : Int32) w) fun e5 => Option.bind (gI e5 (some o) 11 5) fun r6 => Option.bind (kO e5 (some o) 11) fun _ => Option.bind (f_X11_landsBy o v1 (14 : Int32) r6 e5) fun r7 => Option.bind (kO e5 (some o) 11) fun _ => Option.bind (f_X11_say o r7.toInt64 e5) fun w9 => Option.bind (gI w9 (some o) 11 5) fun r11 => Option.bind (kO w9 (some o) 11) fun _ => Option.bind (f_X11_coversOf o v1 (14 : Int32) r11 w9) fun r12 => Option.bind (kO w9 (some o) 11) fun _ => Option.bind (f_X11_say o r12.toInt64 w9) fun w14 => some (w14)
set_option maxRecDepth 100000 in
set_option maxHeartbeats 4000000 in
theorem met_X11_sayTosser (o : Nat) (v1 : Int32) (w : mW) (res : mW) (h : f_X11_sayTosser o v1 w = some res) : mMet M_X11_sayTosser 7 [vr ((some o)), vi v1] w none res := by
  refine ev_met (n := 1) (by decide) rfl fun X => ?_
  unfold f_X11_sayTosser at h
  show mEv X M_X11_sayTosser 7 _ _ 0 [some (vr ((some o))), some (vi v1), none] [] w
  refine ev_iconst (q := 1) (v := (0 : Int32)) dX11_sayTosser_0 rfl (by decide) ?_
  refine ev_istore_n (q := 2) dX11_sayTosser_1 rfl (by decide) ?_
  replace h := Option.bind_eq_some_iff.mp h; obtain ⟨e5, he5, h⟩ := h
  refine ev_weak _ (mLe_some (mLe_some (mLe_some mLe_nil))) (e_X11_sayTosser_L2 (fun z => e5 = z) o v1 (fun e5q hq => ?_) mFuel (0 : Int32) w _ he5 rfl)
  subst hq
  refine ev_aload_n (q := 26) dX11_sayTosser_25 rfl rfl ?_
  refine ev_aload_n (q := 27) dX11_sayTosser_26 rfl rfl ?_
  refine ev_iload_n (q := 28) dX11_sayTosser_27 rfl rfl ?_
  refine ev_bipush (q := 30) (v := (14 : Int32)) dX11_sayTosser_28 rfl (by decide) ?_
  refine ev_aload_n (q := 31) dX11_sayTosser_30 rfl rfl ?_
  replace h := Option.bind_eq_some_iff.mp h; obtain ⟨r6, hr6, h⟩ := h
  refine ev_gI dX11_sayTosser_31 fl_X11_122 hr6 rfl ?_
  replace h := Option.bind_eq_some_iff.mp h; obtain ⟨q8, hq8, h⟩ := h
  obtain ⟨hxq8, fsq8, hkq8⟩ := kO_spec hq8
  cases hxq8
  replace h := Option.bind_eq_some_iff.mp h; obtain ⟨r7, hr7, h⟩ := h
  refine ev_invV (M1 := M_X11_landsBy) (as := [vi v1, vi ((14 : Int32)), vi r6]) (fs := fsq8) (ci := 11) dX11_sayTosser_34 rfl tw_1007 cal_X11_landsBy tw_1009 tw_35 (by decide) rfl rfl (Nat.le_of_ble_eq_true rfl) hkq8 rfl (met_X11_landsBy o v1 (14 : Int32) r6 e5 _ hr7) ?_
  refine ev_i2l (q := 38) dX11_sayTosser_37 rfl ?_
  replace h := Option.bind_eq_some_iff.mp h; obtain ⟨q10, hq10, h⟩ := h
  obtain ⟨hxq10, fsq10, hkq10⟩ := kO_spec hq10
  cases hxq10
  replace h := Option.bind_eq_some_iff.mp h; obtain ⟨w9, hw9, h⟩ := h
  refine ev_invV (M1 := M_X11_say) (as := [vl r7.toInt64]) (fs := fsq10) (ci := 11) dX11_sayTosser_38 rfl tw_1217 cal_X11_say tw_1219 tw_58 (by decide) rfl rfl (Nat.le_of_ble_eq_true rfl) hkq10 rfl (met_X11_say o r7.toInt64 e5 _ hw9) ?_
  refine ev_aload_n (q := 42) dX11_sayTosser_41 rfl rfl ?_
  refine ev_aload_n (q := 43) dX11_sayTosser_42 rfl rfl ?_
  refine ev_iload_n (q := 44) dX11_sayTosser_43 rfl rfl ?_
  refine ev_bipush (q := 46) (v := (14 : Int32)) dX11_sayTosser_44 rfl (by decide) ?_
  refine ev_aload_n (q := 47) dX11_sayTosser_46 rfl rfl ?_
  replace h := Option.bind_eq_some_iff.mp h; obtain ⟨r11, hr11, h⟩ := h
  refine ev_gI dX11_sayTosser_47 fl_X11_122 hr11 rfl ?_
  replace h := Option.bind_eq_some_iff.mp h; obtain ⟨q13, hq13, h⟩ := h
  obtain ⟨hxq13, fsq13, hkq13⟩ := kO_spec hq13
  cases hxq13
  replace h := Option.bind_eq_some_iff.mp h; obtain ⟨r12, hr12, h⟩ := h
  refine ev_invV (M1 := M_X11_coversOf) (as := [vi v1, vi ((14 : Int32)), vi r11]) (fs := fsq13) (ci := 11) dX11_sayTosser_50 rfl tw_1019 cal_X11_coversOf tw_1021 tw_36 (by decide) rfl rfl (Nat.le_of_ble_eq_true rfl) hkq13 rfl (met_X11_coversOf o v1 (14 : Int32) r11 w9 _ hr12) ?_
  refine ev_i2l (q := 54) dX11_sayTosser_53 rfl ?_
  replace h := Option.bind_eq_some_iff.mp h; obtain ⟨q15, hq15, h⟩ := h
  obtain ⟨hxq15, fsq15, hkq15⟩ := kO_spec hq15
  cases hxq15
  replace h := Option.bind_eq_some_iff.mp h; obtain ⟨w14, hw14, h⟩ := h
  refine ev_invV (M1 := M_X11_say) (as := [vl r12.toInt64]) (fs := fsq15) (ci := 11) dX11_sayTosser_54 rfl tw_1217 cal_X11_say tw_1219 tw_58 (by decide) rfl rfl (Nat.le_of_ble_eq_true rfl) hkq15 rfl (met_X11_say o r12.toInt64 w9 _ hw14) ?_
  cases h
  exact ev_vret dX11_sayTosser_57 rfl
def f_X11_sleeper_J19 (s0 : Int32) (w : mW) : Option (Int32) := some (s0)
set_option maxRecDepth 100000 in
set_option maxHeartbeats 4000000 in
theorem e_X11_sleeper_J19 {X : mXs} (s0 : Int32) (w : mW) (res : Int32) (h : f_X11_sleeper_J19 s0 w = some res) : mEv X M_X11_sleeper 7 (some (vi res)) w 19 [none, none, none] [vi s0] w := by
  unfold f_X11_sleeper_J19 at h
  cases h
  exact ev_iret dX11_sleeper_19 rfl rfl
def f_X11_sleeper (o : Nat) (v1 : Int32) (v2 : Int32) (w : mW) : Option (Int32) := Option.bind (kO w (some o) 11) fun _ => Option.bind (f_X11_isSleeper o v1 w) fun r1 => if r1 = 0 then (f_X11_sleeper_J19 (-101 : Int32) w) else (Option.bind (kO w (some o) 11) fun _ => Option.bind (f_X11_tellSleeper o v1 v2 w) fun r3 => f_X11_sleeper_J19 r3 w)
set_option maxRecDepth 100000 in
set_option maxHeartbeats 4000000 in
theorem met_X11_sleeper (o : Nat) (v1 : Int32) (v2 : Int32) (w : mW) (res : Int32) (h : f_X11_sleeper o v1 v2 w = some res) : mMet M_X11_sleeper 7 [vr ((some o)), vi v1, vi v2] w (some (vi res)) w := by
  refine ev_met (n := 0) (by decide) rfl fun X => ?_
  unfold f_X11_sleeper at h
  show mEv X M_X11_sleeper 7 _ _ 0 [some (vr ((some o))), some (vi v1), some (vi v2)] [] w
  refine ev_aload_n (q := 1) dX11_sleeper_0 rfl rfl ?_
  refine ev_iload_n (q := 2) dX11_sleeper_1 rfl rfl ?_
  replace h := Option.bind_eq_some_iff.mp h; obtain ⟨q2, hq2, h⟩ := h
  obtain ⟨hxq2, fsq2, hkq2⟩ := kO_spec hq2
  cases hxq2
  replace h := Option.bind_eq_some_iff.mp h; obtain ⟨r1, hr1, h⟩ := h
  refine ev_invV (M1 := M_X11_isSleeper) (as := [vi v1]) (fs := fsq2) (ci := 11) dX11_sleeper_2 rfl tw_1037 cal_X11_isSleeper tw_1039 tw_38 (by decide) rfl rfl (Nat.le_of_ble_eq_true rfl) hkq2 rfl (met_X11_isSleeper o v1 w _ hr1) ?_
  by_cases hc : r1 = 0
  · rw [if_pos hc] at h
    refine ev_if_eq_t (q := 17) dX11_sleeper_5 (by decide) hc ?_
    refine ev_bipush (q := 19) (v := (-101 : Int32)) dX11_sleeper_17 rfl (by decide) ?_
    exact ev_weak _ (mLe_none (mLe_none (mLe_none mLe_nil))) (e_X11_sleeper_J19 (-101 : Int32) w _ h)
  · rw [if_neg hc] at h
    refine ev_if_eq_f (q := 8) (t0 := 17) dX11_sleeper_5 (by decide) rfl hc ?_
    refine ev_aload_n (q := 9) dX11_sleeper_8 rfl rfl ?_
    refine ev_iload_n (q := 10) dX11_sleeper_9 rfl rfl ?_
    refine ev_iload_n (q := 11) dX11_sleeper_10 rfl rfl ?_
    replace h := Option.bind_eq_some_iff.mp h; obtain ⟨q4, hq4, h⟩ := h
    obtain ⟨hxq4, fsq4, hkq4⟩ := kO_spec hq4
    cases hxq4
    replace h := Option.bind_eq_some_iff.mp h; obtain ⟨r3, hr3, h⟩ := h
    refine ev_invV (M1 := M_X11_tellSleeper) (as := [vi v1, vi v2]) (fs := fsq4) (ci := 11) dX11_sleeper_11 rfl tw_1041 cal_X11_tellSleeper tw_1043 tw_39 (by decide) rfl rfl (Nat.le_of_ble_eq_true rfl) hkq4 rfl (met_X11_tellSleeper o v1 v2 w _ hr3) ?_
    refine ev_goto (q := 19) dX11_sleeper_14 (by decide) ?_
    exact ev_weak _ (mLe_none (mLe_none (mLe_none mLe_nil))) (e_X11_sleeper_J19 r3 w _ h)
def f_X11_tosser_J19 (s0 : Int32) (w : mW) : Option (Int32) := some (s0)
set_option maxRecDepth 100000 in
set_option maxHeartbeats 4000000 in
theorem e_X11_tosser_J19 {X : mXs} (s0 : Int32) (w : mW) (res : Int32) (h : f_X11_tosser_J19 s0 w = some res) : mEv X M_X11_tosser 7 (some (vi res)) w 19 [none, none, none] [vi s0] w := by
  unfold f_X11_tosser_J19 at h
  cases h
  exact ev_iret dX11_tosser_19 rfl rfl
def f_X11_tosser (o : Nat) (v1 : Int32) (v2 : Int32) (w : mW) : Option (Int32) := Option.bind (kO w (some o) 11) fun _ => Option.bind (f_X11_isTosser o v1 w) fun r1 => if r1 = 0 then (f_X11_tosser_J19 (-101 : Int32) w) else (Option.bind (kO w (some o) 11) fun _ => Option.bind (f_X11_tellTosser o v1 v2 w) fun r3 => f_X11_tosser_J19 r3 w)
set_option maxRecDepth 100000 in
set_option maxHeartbeats 4000000 in
theorem met_X11_tosser (o : Nat) (v1 : Int32) (v2 : Int32) (w : mW) (res : Int32) (h : f_X11_tosser o v1 v2 w = some res) : mMet M_X11_tosser 7 [vr ((some o)), vi v1, vi v2] w (some (vi res)) w := by
  refine ev_met (n := 0) (by decide) rfl fun X => ?_
  unfold f_X11_tosser at h
  show mEv X M_X11_tosser 7 _ _ 0 [some (vr ((some o))), some (vi v1), some (vi v2)] [] w
  refine ev_aload_n (q := 1) dX11_tosser_0 rfl rfl ?_
  refine ev_iload_n (q := 2) dX11_tosser_1 rfl rfl ?_
  replace h := Option.bind_eq_some_iff.mp h; obtain ⟨q2, hq2, h⟩ := h
  obtain ⟨hxq2, fsq2, hkq2⟩ := kO_spec hq2
  cases hxq2
  replace h := Option.bind_eq_some_iff.mp h; obtain ⟨r1, hr1, h⟩ := h
  refine ev_invV (M1 := M_X11_isTosser) (as := [vi v1]) (fs := fsq2) (ci := 11) dX11_tosser_2 rfl tw_999 cal_X11_isTosser tw_1001 tw_34 (by decide) rfl rfl (Nat.le_of_ble_eq_true rfl) hkq2 rfl (met_X11_isTosser o v1 w _ hr1) ?_
  by_cases hc : r1 = 0
  · rw [if_pos hc] at h
    refine ev_if_eq_t (q := 17) dX11_tosser_5 (by decide) hc ?_
    refine ev_bipush (q := 19) (v := (-101 : Int32)) dX11_tosser_17 rfl (by decide) ?_
    exact ev_weak _ (mLe_none (mLe_none (mLe_none mLe_nil))) (e_X11_tosser_J19 (-101 : Int32) w _ h)
  · rw [if_neg hc] at h
    refine ev_if_eq_f (q := 8) (t0 := 17) dX11_tosser_5 (by decide) rfl hc ?_
    refine ev_aload_n (q := 9) dX11_tosser_8 rfl rfl ?_
    refine ev_iload_n (q := 10) dX11_tosser_9 rfl rfl ?_
    refine ev_iload_n (q := 11) dX11_tosser_10 rfl rfl ?_
    replace h := Option.bind_eq_some_iff.mp h; obtain ⟨q4, hq4, h⟩ := h
    obtain ⟨hxq4, fsq4, hkq4⟩ := kO_spec hq4
    cases hxq4
    replace h := Option.bind_eq_some_iff.mp h; obtain ⟨r3, hr3, h⟩ := h
    refine ev_invV (M1 := M_X11_tellTosser) (as := [vi v1, vi v2]) (fs := fsq4) (ci := 11) dX11_tosser_11 rfl tw_1061 cal_X11_tellTosser tw_1063 tw_43 (by decide) rfl rfl (Nat.le_of_ble_eq_true rfl) hkq4 rfl (met_X11_tellTosser o v1 v2 w _ hr3) ?_
    refine ev_goto (q := 19) dX11_tosser_14 (by decide) ?_
    exact ev_weak _ (mLe_none (mLe_none (mLe_none mLe_nil))) (e_X11_tosser_J19 r3 w _ h)
def f_X11_digest_L108 (o : Nat) : Nat → Int32 → mW → Option (mW)
  | 0, _, _ => none
  | n + 1, v1, w => if (12 : Int32) ≤ v1 then (some (w)) else (Option.bind (kO w (some o) 11) fun _ => Option.bind (f_X11_countOf o v1 w) fun r1 => Option.bind (kO w (some o) 11) fun _ => Option.bind (f_X11_say o r1.toInt64 w) fun w3 => (f_X11_digest_L108 o n) (v1 + (1 : Int32)) w3)
set_option maxRecDepth 100000 in
set_option maxHeartbeats 4000000 in
theorem e_X11_digest_L108 {X : mXs} {r : Option mV} {w' : mW} (P : (mW) → Prop) (o : Nat) (hexit : ∀ y, P y → mEv X M_X11_digest 8 r w' 130 [some (vr ((some o))), none, none] [] y) : ∀ (n : Nat) (v1 : Int32) (w : mW) (e : mW), f_X11_digest_L108 o n v1 w = some e → P e → mEv X M_X11_digest 8 r w' 108 [some (vr ((some o))), some (vi v1), none] [] w := by
  intro n
  induction n with
  | zero =>
    intro v1 w e h hP
    rw [f_X11_digest_L108] at h
    cases h
  | succ n hk =>
    intro v1 w e h hP
    rw [f_X11_digest_L108] at h
    refine ev_iload_n (q := 109) dX11_digest_108 rfl rfl ?_
    refine ev_bipush (q := 111) (v := (12 : Int32)) dX11_digest_109 rfl (by decide) ?_
    by_cases hc : (12 : Int32) ≤ v1
    · rw [if_pos hc] at h
      refine ev_icmp_ge_t (q := 130) dX11_digest_111 (by decide) hc ?_
      cases h
      exact ev_weak _ (mLe_some (mLe_none (mLe_none mLe_nil))) (hexit _ hP)
    · rw [if_neg hc] at h
      refine ev_icmp_ge_f (q := 114) (t0 := 130) dX11_digest_111 (by decide) rfl hc ?_
      refine ev_aload_n (q := 115) dX11_digest_114 rfl rfl ?_
      refine ev_aload_n (q := 116) dX11_digest_115 rfl rfl ?_
      refine ev_iload_n (q := 117) dX11_digest_116 rfl rfl ?_
      replace h := Option.bind_eq_some_iff.mp h; obtain ⟨q2, hq2, h⟩ := h
      obtain ⟨hxq2, fsq2, hkq2⟩ := kO_spec hq2
      cases hxq2
      replace h := Option.bind_eq_some_iff.mp h; obtain ⟨r1, hr1, h⟩ := h
      refine ev_invV (M1 := M_X11_countOf) (as := [vi v1]) (fs := fsq2) (ci := 11) dX11_digest_117 rfl tw_1204 cal_X11_countOf tw_1206 tw_56 (by decide) rfl rfl (Nat.le_of_ble_eq_true rfl) hkq2 rfl (met_X11_countOf o v1 w _ hr1) ?_
      refine ev_i2l (q := 121) dX11_digest_120 rfl ?_
      replace h := Option.bind_eq_some_iff.mp h; obtain ⟨q4, hq4, h⟩ := h
      obtain ⟨hxq4, fsq4, hkq4⟩ := kO_spec hq4
      cases hxq4
      replace h := Option.bind_eq_some_iff.mp h; obtain ⟨w3, hw3, h⟩ := h
      refine ev_invV (M1 := M_X11_say) (as := [vl r1.toInt64]) (fs := fsq4) (ci := 11) dX11_digest_121 rfl tw_1217 cal_X11_say tw_1219 tw_58 (by decide) rfl rfl (Nat.le_of_ble_eq_true rfl) hkq4 rfl (met_X11_say o r1.toInt64 w _ hw3) ?_
      refine ev_iinc (q := 127) (v := v1 + (1 : Int32)) dX11_digest_124 rfl (by decide) rfl (by rfl) ?_
      refine ev_goto (q := 108) dX11_digest_127 (by decide) ?_
      exact ev_weak _ (mLe_some (mLe_some (mLe_none mLe_nil))) (hk (v1 + (1 : Int32)) w3 _ h hP)
def f_X11_digest_L81 (o : Nat) : Nat → Int32 → mW → Option (mW)
  | 0, _, _ => none
  | n + 1, v1, w => Option.bind (gI w (some o) 11 1) fun r5 => if r5 ≤ v1 then (some (w)) else (Option.bind (gR w (some o) 11 0) fun r6 => Option.bind (aL w r6 v1) fun r7 => Option.bind (kO w (some o) 11) fun _ => Option.bind (f_X11_say o r7.toInt64 w) fun w8 => (f_X11_digest_L81 o n) (v1 + (1 : Int32)) w8)
set_option maxRecDepth 100000 in
set_option maxHeartbeats 4000000 in
theorem e_X11_digest_L81 {X : mXs} {r : Option mV} {w' : mW} (P : (mW) → Prop) (o : Nat) (hexit : ∀ y, P y → mEv X M_X11_digest 8 r w' 106 [some (vr ((some o))), none, none] [] y) : ∀ (n : Nat) (v1 : Int32) (w : mW) (e : mW), f_X11_digest_L81 o n v1 w = some e → P e → mEv X M_X11_digest 8 r w' 81 [some (vr ((some o))), some (vi v1), none] [] w := by
  intro n
  induction n with
  | zero =>
    intro v1 w e h hP
    rw [f_X11_digest_L81] at h
    cases h
  | succ n hk =>
    intro v1 w e h hP
    rw [f_X11_digest_L81] at h
    refine ev_iload_n (q := 82) dX11_digest_81 rfl rfl ?_
    refine ev_aload_n (q := 83) dX11_digest_82 rfl rfl ?_
    replace h := Option.bind_eq_some_iff.mp h; obtain ⟨r5, hr5, h⟩ := h
    refine ev_gI dX11_digest_83 fl_X11_83 hr5 rfl ?_
    by_cases hc : r5 ≤ v1
    · rw [if_pos hc] at h
      refine ev_icmp_ge_t (q := 106) dX11_digest_86 (by decide) hc ?_
      cases h
      exact ev_weak _ (mLe_some (mLe_none (mLe_none mLe_nil))) (hexit _ hP)
    · rw [if_neg hc] at h
      refine ev_icmp_ge_f (q := 89) (t0 := 106) dX11_digest_86 (by decide) rfl hc ?_
      refine ev_aload_n (q := 90) dX11_digest_89 rfl rfl ?_
      refine ev_aload_n (q := 91) dX11_digest_90 rfl rfl ?_
      replace h := Option.bind_eq_some_iff.mp h; obtain ⟨r6, hr6, h⟩ := h
      refine ev_gR dX11_digest_91 fl_X11_7 hr6 rfl ?_
      refine ev_iload_n (q := 95) dX11_digest_94 rfl rfl ?_
      replace h := Option.bind_eq_some_iff.mp h; obtain ⟨r7, hr7, h⟩ := h
      refine ev_aL dX11_digest_95 hr7 rfl ?_
      refine ev_i2l (q := 97) dX11_digest_96 rfl ?_
      replace h := Option.bind_eq_some_iff.mp h; obtain ⟨q9, hq9, h⟩ := h
      obtain ⟨hxq9, fsq9, hkq9⟩ := kO_spec hq9
      cases hxq9
      replace h := Option.bind_eq_some_iff.mp h; obtain ⟨w8, hw8, h⟩ := h
      refine ev_invV (M1 := M_X11_say) (as := [vl r7.toInt64]) (fs := fsq9) (ci := 11) dX11_digest_97 rfl tw_1217 cal_X11_say tw_1219 tw_58 (by decide) rfl rfl (Nat.le_of_ble_eq_true rfl) hkq9 rfl (met_X11_say o r7.toInt64 w _ hw8) ?_
      refine ev_iinc (q := 103) (v := v1 + (1 : Int32)) dX11_digest_100 rfl (by decide) rfl (by rfl) ?_
      refine ev_goto (q := 81) dX11_digest_103 (by decide) ?_
      exact ev_weak _ (mLe_some (mLe_some (mLe_none mLe_nil))) (hk (v1 + (1 : Int32)) w8 _ h hP)
def f_X11_digest_J79 (o : Nat) (w : mW) : Option (Int64 × mW) := Option.bind (f_X11_digest_L81 o mFuel (0 : Int32) w) fun e10 => Option.bind (f_X11_digest_L108 o mFuel (0 : Int32) e10) fun e11 => Option.bind (gL e11 (some o) 11 39) fun r12 => some ((r12, e11))
set_option maxRecDepth 100000 in
set_option maxHeartbeats 4000000 in
theorem e_X11_digest_J79 {X : mXs} (o : Nat) (w : mW) (res : Int64 × mW) (h : f_X11_digest_J79 o w = some res) : mEv X M_X11_digest 8 (some (vl res.1)) res.2 79 [some (vr ((some o))), none, none] [] w := by
  unfold f_X11_digest_J79 at h
  refine ev_iconst (q := 80) (v := (0 : Int32)) dX11_digest_79 rfl (by decide) ?_
  refine ev_istore_n (q := 81) dX11_digest_80 rfl (by decide) ?_
  replace h := Option.bind_eq_some_iff.mp h; obtain ⟨e10, he10, h⟩ := h
  refine ev_weak _ (mLe_some (mLe_some (mLe_none mLe_nil))) (e_X11_digest_L81 (fun z => e10 = z) o (fun e10q hq => ?_) mFuel (0 : Int32) w _ he10 rfl)
  subst hq
  refine ev_iconst (q := 107) (v := (0 : Int32)) dX11_digest_106 rfl (by decide) ?_
  refine ev_istore_n (q := 108) dX11_digest_107 rfl (by decide) ?_
  replace h := Option.bind_eq_some_iff.mp h; obtain ⟨e11, he11, h⟩ := h
  refine ev_weak _ (mLe_some (mLe_some (mLe_none mLe_nil))) (e_X11_digest_L108 (fun z => e11 = z) o (fun e11q hq => ?_) mFuel (0 : Int32) e10 _ he11 rfl)
  subst hq
  refine ev_aload_n (q := 131) dX11_digest_130 rfl rfl ?_
  replace h := Option.bind_eq_some_iff.mp h; obtain ⟨r12, hr12, h⟩ := h
  refine ev_gL dX11_digest_131 fl_X11_292 hr12 rfl ?_
  cases h
  exact ev_lret dX11_digest_134 rfl
def f_X11_digest_L49 (o : Nat) : Nat → Int32 → mW → Option (mW)
  | 0, _, _ => none
  | n + 1, v1, w => Option.bind (gI w (some o) 11 4) fun r13 => if r13 ≤ v1 then (some (w)) else (Option.bind (kO w (some o) 11) fun _ => Option.bind (f_X11_sayTosser o v1 w) fun w14 => (f_X11_digest_L49 o n) (v1 + (1 : Int32)) w14)
set_option maxRecDepth 100000 in
set_option maxHeartbeats 4000000 in
theorem e_X11_digest_L49 {X : mXs} {r : Option mV} {w' : mW} (P : (mW) → Prop) (o : Nat) (hexit : ∀ y, P y → mEv X M_X11_digest 8 r w' 68 [some (vr ((some o))), none, none] [] y) : ∀ (n : Nat) (v1 : Int32) (w : mW) (e : mW), f_X11_digest_L49 o n v1 w = some e → P e → mEv X M_X11_digest 8 r w' 49 [some (vr ((some o))), some (vi v1), none] [] w := by
  intro n
  induction n with
  | zero =>
    intro v1 w e h hP
    rw [f_X11_digest_L49] at h
    cases h
  | succ n hk =>
    intro v1 w e h hP
    rw [f_X11_digest_L49] at h
    refine ev_iload_n (q := 50) dX11_digest_49 rfl rfl ?_
    refine ev_aload_n (q := 51) dX11_digest_50 rfl rfl ?_
    replace h := Option.bind_eq_some_iff.mp h; obtain ⟨r13, hr13, h⟩ := h
    refine ev_gI dX11_digest_51 fl_X11_119 hr13 rfl ?_
    by_cases hc : r13 ≤ v1
    · rw [if_pos hc] at h
      refine ev_icmp_ge_t (q := 68) dX11_digest_54 (by decide) hc ?_
      cases h
      exact ev_weak _ (mLe_some (mLe_none (mLe_none mLe_nil))) (hexit _ hP)
    · rw [if_neg hc] at h
      refine ev_icmp_ge_f (q := 57) (t0 := 68) dX11_digest_54 (by decide) rfl hc ?_
      refine ev_aload_n (q := 58) dX11_digest_57 rfl rfl ?_
      refine ev_iload_n (q := 59) dX11_digest_58 rfl rfl ?_
      replace h := Option.bind_eq_some_iff.mp h; obtain ⟨q15, hq15, h⟩ := h
      obtain ⟨hxq15, fsq15, hkq15⟩ := kO_spec hq15
      cases hxq15
      replace h := Option.bind_eq_some_iff.mp h; obtain ⟨w14, hw14, h⟩ := h
      refine ev_invV (M1 := M_X11_sayTosser) (as := [vi v1]) (fs := fsq15) (ci := 11) dX11_digest_59 rfl tw_1222 cal_X11_sayTosser tw_1224 tw_59 (by decide) rfl rfl (Nat.le_of_ble_eq_true rfl) hkq15 rfl (met_X11_sayTosser o v1 w _ hw14) ?_
      refine ev_iinc (q := 65) (v := v1 + (1 : Int32)) dX11_digest_62 rfl (by decide) rfl (by rfl) ?_
      refine ev_goto (q := 49) dX11_digest_65 (by decide) ?_
      exact ev_weak _ (mLe_some (mLe_some (mLe_none mLe_nil))) (hk (v1 + (1 : Int32)) w14 _ h hP)
def f_X11_digest_L19 (o : Nat) (v1 : Int32) : Nat → Int32 → mW → Option (mW)
  | 0, _, _ => none
  | n + 1, v2, w => if (5 : Int32) ≤ v2 then (some (w)) else (Option.bind (kO w (some o) 11) fun _ => Option.bind (f_X11_tellSleeper o v1 v2 w) fun r16 => Option.bind (kO w (some o) 11) fun _ => Option.bind (f_X11_say o r16.toInt64 w) fun w18 => (f_X11_digest_L19 o v1 n) (v2 + (1 : Int32)) w18)
set_option maxRecDepth 100000 in
set_option maxHeartbeats 4000000 in
theorem e_X11_digest_L19 {X : mXs} {r : Option mV} {w' : mW} (P : (mW) → Prop) (o : Nat) (v1 : Int32) (hexit : ∀ y, P y → mEv X M_X11_digest 8 r w' 41 [some (vr ((some o))), some (vi v1), none] [] y) : ∀ (n : Nat) (v2 : Int32) (w : mW) (e : mW), f_X11_digest_L19 o v1 n v2 w = some e → P e → mEv X M_X11_digest 8 r w' 19 [some (vr ((some o))), some (vi v1), some (vi v2)] [] w := by
  intro n
  induction n with
  | zero =>
    intro v2 w e h hP
    rw [f_X11_digest_L19] at h
    cases h
  | succ n hk =>
    intro v2 w e h hP
    rw [f_X11_digest_L19] at h
    refine ev_iload_n (q := 20) dX11_digest_19 rfl rfl ?_
    refine ev_iconst (q := 21) (v := (5 : Int32)) dX11_digest_20 rfl (by decide) ?_
    by_cases hc : (5 : Int32) ≤ v2
    · rw [if_pos hc] at h
      refine ev_icmp_ge_t (q := 41) dX11_digest_21 (by decide) hc ?_
      cases h
      exact ev_weak _ (mLe_some (mLe_some (mLe_none mLe_nil))) (hexit _ hP)
    · rw [if_neg hc] at h
      refine ev_icmp_ge_f (q := 24) (t0 := 41) dX11_digest_21 (by decide) rfl hc ?_
      refine ev_aload_n (q := 25) dX11_digest_24 rfl rfl ?_
      refine ev_aload_n (q := 26) dX11_digest_25 rfl rfl ?_
      refine ev_iload_n (q := 27) dX11_digest_26 rfl rfl ?_
      refine ev_iload_n (q := 28) dX11_digest_27 rfl rfl ?_
      replace h := Option.bind_eq_some_iff.mp h; obtain ⟨q17, hq17, h⟩ := h
      obtain ⟨hxq17, fsq17, hkq17⟩ := kO_spec hq17
      cases hxq17
      replace h := Option.bind_eq_some_iff.mp h; obtain ⟨r16, hr16, h⟩ := h
      refine ev_invV (M1 := M_X11_tellSleeper) (as := [vi v1, vi v2]) (fs := fsq17) (ci := 11) dX11_digest_28 rfl tw_1041 cal_X11_tellSleeper tw_1043 tw_39 (by decide) rfl rfl (Nat.le_of_ble_eq_true rfl) hkq17 rfl (met_X11_tellSleeper o v1 v2 w _ hr16) ?_
      refine ev_i2l (q := 32) dX11_digest_31 rfl ?_
      replace h := Option.bind_eq_some_iff.mp h; obtain ⟨q19, hq19, h⟩ := h
      obtain ⟨hxq19, fsq19, hkq19⟩ := kO_spec hq19
      cases hxq19
      replace h := Option.bind_eq_some_iff.mp h; obtain ⟨w18, hw18, h⟩ := h
      refine ev_invV (M1 := M_X11_say) (as := [vl r16.toInt64]) (fs := fsq19) (ci := 11) dX11_digest_32 rfl tw_1217 cal_X11_say tw_1219 tw_58 (by decide) rfl rfl (Nat.le_of_ble_eq_true rfl) hkq19 rfl (met_X11_say o r16.toInt64 w _ hw18) ?_
      refine ev_iinc (q := 38) (v := v2 + (1 : Int32)) dX11_digest_35 rfl (by decide) rfl (by rfl) ?_
      refine ev_goto (q := 19) dX11_digest_38 (by decide) ?_
      exact ev_weak _ (mLe_some (mLe_some (mLe_some mLe_nil))) (hk (v2 + (1 : Int32)) w18 _ h hP)
def f_X11_digest_L9 (o : Nat) : Nat → Int32 → mW → Option (mW)
  | 0, _, _ => none
  | n + 1, v1, w => Option.bind (gI w (some o) 11 3) fun r20 => if r20 ≤ v1 then (some (w)) else (Option.bind (f_X11_digest_L19 o v1 mFuel (0 : Int32) w) fun e21 => (f_X11_digest_L9 o n) (v1 + (1 : Int32)) e21)
set_option maxRecDepth 100000 in
set_option maxHeartbeats 4000000 in
theorem e_X11_digest_L9 {X : mXs} {r : Option mV} {w' : mW} (P : (mW) → Prop) (o : Nat) (hexit : ∀ y, P y → mEv X M_X11_digest 8 r w' 47 [some (vr ((some o))), none, none] [] y) : ∀ (n : Nat) (v1 : Int32) (w : mW) (e : mW), f_X11_digest_L9 o n v1 w = some e → P e → mEv X M_X11_digest 8 r w' 9 [some (vr ((some o))), some (vi v1), none] [] w := by
  intro n
  induction n with
  | zero =>
    intro v1 w e h hP
    rw [f_X11_digest_L9] at h
    cases h
  | succ n hk =>
    intro v1 w e h hP
    rw [f_X11_digest_L9] at h
    refine ev_iload_n (q := 10) dX11_digest_9 rfl rfl ?_
    refine ev_aload_n (q := 11) dX11_digest_10 rfl rfl ?_
    replace h := Option.bind_eq_some_iff.mp h; obtain ⟨r20, hr20, h⟩ := h
    refine ev_gI dX11_digest_11 fl_X11_116 hr20 rfl ?_
    by_cases hc : r20 ≤ v1
    · rw [if_pos hc] at h
      refine ev_icmp_ge_t (q := 47) dX11_digest_14 (by decide) hc ?_
      cases h
      exact ev_weak _ (mLe_some (mLe_none (mLe_none mLe_nil))) (hexit _ hP)
    · rw [if_neg hc] at h
      refine ev_icmp_ge_f (q := 17) (t0 := 47) dX11_digest_14 (by decide) rfl hc ?_
      refine ev_iconst (q := 18) (v := (0 : Int32)) dX11_digest_17 rfl (by decide) ?_
      refine ev_istore_n (q := 19) dX11_digest_18 rfl (by decide) ?_
      replace h := Option.bind_eq_some_iff.mp h; obtain ⟨e21, he21, h⟩ := h
      refine ev_weak _ (mLe_some (mLe_some (mLe_some mLe_nil))) (e_X11_digest_L19 (fun z => e21 = z) o v1 (fun e21q hq => ?_) mFuel (0 : Int32) w _ he21 rfl)
      subst hq
      refine ev_iinc (q := 44) (v := v1 + (1 : Int32)) dX11_digest_41 rfl (by decide) rfl (by rfl) ?_
      refine ev_goto (q := 9) dX11_digest_44 (by decide) ?_
      exact ev_weak _ (mLe_some (mLe_some (mLe_none mLe_nil))) (hk (v1 + (1 : Int32)) e21 _ h hP)
def f_X11_digest (o : Nat) (w : mW) : Option (Int64 × mW) := Option.bind (pL w (some o) 11 39 (1217 : Int64)) fun w22 => Option.bind (f_X11_digest_L9 o mFuel (0 : Int32) w22) fun e23 => Option.bind (f_X11_digest_L49 o mFuel (0 : Int32) e23) fun e24 => Option.bind (kO e24 (some o) 11) fun _ => Option.bind (f_X11_lacks o  e24) fun r25 => if r25 = 0 then (Option.bind (kO e24 (some o) 11) fun _ => Option.bind (f_X11_sayPort o  e24) fun w27 => f_X11_digest_J79 o w27) else (f_X11_digest_J79 o e24)
set_option maxRecDepth 100000 in
set_option maxHeartbeats 4000000 in
theorem met_X11_digest (o : Nat) (w : mW) (res : Int64 × mW) (h : f_X11_digest o w = some res) : mMet M_X11_digest 8 [vr ((some o))] w (some (vl res.1)) res.2 := by
  refine ev_met (n := 2) (by decide) rfl fun X => ?_
  unfold f_X11_digest at h
  show mEv X M_X11_digest 8 _ _ 0 [some (vr ((some o))), none, none] [] w
  refine ev_aload_n (q := 1) dX11_digest_0 rfl rfl ?_
  refine ev_ldc2 (q := 4) (v := (1217 : Int64)) dX11_digest_1 rfl tw_1216 ?_
  replace h := Option.bind_eq_some_iff.mp h; obtain ⟨w22, hw22, h⟩ := h
  refine ev_pL dX11_digest_4 fp_X11_292 hw22 rfl ?_
  refine ev_iconst (q := 8) (v := (0 : Int32)) dX11_digest_7 rfl (by decide) ?_
  refine ev_istore_n (q := 9) dX11_digest_8 rfl (by decide) ?_
  replace h := Option.bind_eq_some_iff.mp h; obtain ⟨e23, he23, h⟩ := h
  refine ev_weak _ (mLe_some (mLe_some (mLe_none mLe_nil))) (e_X11_digest_L9 (fun z => e23 = z) o (fun e23q hq => ?_) mFuel (0 : Int32) w22 _ he23 rfl)
  subst hq
  refine ev_iconst (q := 48) (v := (0 : Int32)) dX11_digest_47 rfl (by decide) ?_
  refine ev_istore_n (q := 49) dX11_digest_48 rfl (by decide) ?_
  replace h := Option.bind_eq_some_iff.mp h; obtain ⟨e24, he24, h⟩ := h
  refine ev_weak _ (mLe_some (mLe_some (mLe_none mLe_nil))) (e_X11_digest_L49 (fun z => e24 = z) o (fun e24q hq => ?_) mFuel (0 : Int32) e23 _ he24 rfl)
  subst hq
  refine ev_aload_n (q := 69) dX11_digest_68 rfl rfl ?_
  replace h := Option.bind_eq_some_iff.mp h; obtain ⟨q26, hq26, h⟩ := h
  obtain ⟨hxq26, fsq26, hkq26⟩ := kO_spec hq26
  cases hxq26
  replace h := Option.bind_eq_some_iff.mp h; obtain ⟨r25, hr25, h⟩ := h
  refine ev_invV (M1 := M_X11_lacks) (as := []) (fs := fsq26) (ci := 11) dX11_digest_69 rfl tw_1104 cal_X11_lacks tw_1106 tw_48 (by decide) rfl rfl (Nat.le_of_ble_eq_true rfl) hkq26 rfl (met_X11_lacks o  e24 _ hr25) ?_
  by_cases hc : r25 = 0
  · rw [if_pos hc] at h
    refine ev_if_ne_f (q := 75) (t0 := 79) dX11_digest_72 (by decide) rfl hc ?_
    refine ev_aload_n (q := 76) dX11_digest_75 rfl rfl ?_
    replace h := Option.bind_eq_some_iff.mp h; obtain ⟨q28, hq28, h⟩ := h
    obtain ⟨hxq28, fsq28, hkq28⟩ := kO_spec hq28
    cases hxq28
    replace h := Option.bind_eq_some_iff.mp h; obtain ⟨w27, hw27, h⟩ := h
    refine ev_invV (M1 := M_X11_sayPort) (as := []) (fs := fsq28) (ci := 11) dX11_digest_76 rfl tw_1226 cal_X11_sayPort tw_1228 tw_60 (by decide) rfl rfl (Nat.le_of_ble_eq_true rfl) hkq28 rfl (met_X11_sayPort o  e24 _ hw27) ?_
    exact ev_weak _ (mLe_some (mLe_none (mLe_none mLe_nil))) (e_X11_digest_J79 o w27 _ h)
  · rw [if_neg hc] at h
    refine ev_if_ne_t (q := 79) dX11_digest_72 (by decide) hc ?_
    exact ev_weak _ (mLe_some (mLe_none (mLe_none mLe_nil))) (e_X11_digest_J79 o e24 _ h)
