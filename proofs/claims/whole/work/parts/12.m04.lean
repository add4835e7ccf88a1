def f_X11_columnBy_J23 (s0 : Int32) (w : mW) : Option (Int32) := some (s0)
set_option maxRecDepth 100000 in
set_option maxHeartbeats 4000000 in
theorem e_X11_columnBy_J23 {X : mXs} (s0 : Int32) (w : mW) (res : Int32) (h : f_X11_columnBy_J23 s0 w = some res) : mEv X M_X11_columnBy 1 (some (vi res)) w 23 [none, none, none] [vi s0] w := by
  unfold f_X11_columnBy_J23 at h
  cases h
  exact ev_iret dX11_columnBy_23 rfl rfl
def f_X11_columnBy (v0 : Int32) (v1 : Int32) (w : mW) : Option (Int32) := Option.bind (f_X11_in (((v0 + v1) - (2 : Int32)).toInt64) (0 : Int64) (5 : Int64) w) fun r1 => if r1 = 0 then (f_X11_columnBy_J23 (-1 : Int32) w) else (f_X11_columnBy_J23 ((v0 + v1) - (2 : Int32)) w)
set_option maxRecDepth 100000 in
set_option maxHeartbeats 4000000 in
theorem met_X11_columnBy (v0 : Int32) (v1 : Int32) (w : mW) (res : Int32) (h : f_X11_columnBy v0 v1 w = some res) : mMet M_X11_columnBy 1 [vi v0, vi v1] w (some (vi res)) w := by
  refine ev_met (n := 1) (by decide) rfl fun X => ?_
  unfold f_X11_columnBy at h
  show mEv X M_X11_columnBy 1 _ _ 0 [some (vi v0), some (vi v1), none] [] w
  refine ev_iload_n (q := 1) dX11_columnBy_0 rfl rfl ?_
  refine ev_iload_n (q := 2) dX11_columnBy_1 rfl rfl ?_
  refine ev_iadd (q := 3) dX11_columnBy_2 rfl ?_
  refine ev_iconst (q := 4) (v := (2 : Int32)) dX11_columnBy_3 rfl (by decide) ?_
  refine ev_isub (q := 5) dX11_columnBy_4 rfl ?_
  refine ev_istore_n (q := 6) dX11_columnBy_5 rfl (by decide) ?_
  refine ev_iload_n (q := 7) dX11_columnBy_6 rfl rfl ?_
  refine ev_i2l (q := 8) dX11_columnBy_7 rfl ?_
  refine ev_lconst (q := 9) (v := (0 : Int64)) dX11_columnBy_8 rfl (by decide) ?_
  refine ev_ldc2 (q := 12) (v := (5 : Int64)) dX11_columnBy_9 rfl tw_1014 ?_
  replace h := Option.bind_eq_some_iff.mp h; obtain ⟨r1, hr1, h⟩ := h
  refine ev_invS (M1 := M_X11_in) (as := [vl (((v0 + v1) - (2 : Int32)).toInt64), vl ((0 : Int64)), vl ((5 : Int64))]) dX11_columnBy_12 rfl tw_954 cal_X11_in tw_955 (by decide) rfl rfl (Nat.le_of_ble_eq_true rfl) (met_X11_in (((v0 + v1) - (2 : Int32)).toInt64) (0 : Int64) (5 : Int64) w _ hr1) ?_
  by_cases hc : r1 = 0
  · rw [if_pos hc] at h
    refine ev_if_eq_t (q := 22) dX11_columnBy_15 (by decide) hc ?_
    refine ev_iconst (q := 23) (v := (-1 : Int32)) dX11_columnBy_22 rfl (by decide) ?_
    exact ev_weak _ (mLe_none (mLe_none (mLe_none mLe_nil))) (e_X11_columnBy_J23 (-1 : Int32) w _ h)
  · rw [if_neg hc] at h
    refine ev_if_eq_f (q := 18) (t0 := 22) dX11_columnBy_15 (by decide) rfl hc ?_
    refine ev_iload_n (q := 19) dX11_columnBy_18 rfl rfl ?_
    refine ev_goto (q := 23) dX11_columnBy_19 (by decide) ?_
    exact ev_weak _ (mLe_none (mLe_none (mLe_none mLe_nil))) (e_X11_columnBy_J23 ((v0 + v1) - (2 : Int32)) w _ h)
def f_X11_countOf (o : Nat) (v1 : Int32) (w : mW) : Option (Int32) := if v1 = 0 then (Option.bind (gI w (some o) 11 3) fun r1 => some (r1)) else (if v1 = 1 then (Option.bind (gI w (some o) 11 4) fun r2 => some (r2)) else (if v1 = 2 then (Option.bind (gR w (some o) 11 11) fun r3 => Option.bind (kO w (some o) 11) fun _ => Option.bind (f_X11_sumOf o r3 w) fun r4 => some (r4)) else (if v1 = 3 then (Option.bind (gI w (some o) 11 6) fun r6 => some (r6)) else (if v1 = 4 then (Option.bind (gI w (some o) 11 5) fun r7 => some (r7 + (1 : Int32))) else (if v1 = 5 then (Option.bind (gI w (some o) 11 7) fun r8 => some (r8)) else (if v1 = 6 then (Option.bind (gR w (some o) 11 12) fun r9 => Option.bind (kO w (some o) 11) fun _ => Option.bind (f_X11_sumOf o r9 w) fun r10 => some (r10)) else (if v1 = 7 then (Option.bind (gR w (some o) 11 13) fun r12 => Option.bind (kO w (some o) 11) fun _ => Option.bind (f_X11_sumOf o r12 w) fun r13 => some (r13)) else (if v1 = 8 then (Option.bind (gI w (some o) 11 8) fun r15 => some (r15)) else (if v1 = 9 then (Option.bind (gI w (some o) 11 22) fun r16 => some (r16)) else (if v1 = 10 then (Option.bind (gI w (some o) 11 1) fun r17 => some (r17)) else (if v1 = 11 then (Option.bind (gI w (some o) 11 9) fun r18 => some (r18)) else (some ((-102 : Int32))))))))))))))
set_option maxRecDepth 100000 in
set_option maxHeartbeats 4000000 in
theorem met_X11_countOf (o : Nat) (v1 : Int32) (w : mW) (res : Int32) (h : f_X11_countOf o v1 w = some res) : mMet M_X11_countOf 1 [vr ((some o)), vi v1] w (some (vi res)) w := by
  refine ev_met (n := 0) (by decide) rfl fun X => ?_
  unfold f_X11_countOf at h
  show mEv X M_X11_countOf 1 _ _ 0 [some (vr ((some o))), some (vi v1)] [] w
  refine ev_iload_n (q := 1) dX11_countOf_0 rfl rfl ?_
  by_cases hc0 : v1 = 0
  · rw [if_pos hc0] at h
    refine ev_table_in (q := 64) (off := 63) dX11_countOf_1 (by rw [hc0]; decide) (by rw [hc0]; decide) (by rw [hc0]; rfl) (by decide) ?_
    refine ev_aload_n (q := 65) dX11_countOf_64 rfl rfl ?_
    replace h := Option.bind_eq_some_iff.mp h; obtain ⟨r1, hr1, h⟩ := h
    refine ev_gI dX11_countOf_65 fl_X11_116 hr1 rfl ?_
    cases h
    exact ev_iret dX11_countOf_68 rfl rfl
  · rw [if_neg hc0] at h
    by_cases hc1 : v1 = 1
    · rw [if_pos hc1] at h
      refine ev_table_in (q := 69) (off := 68) dX11_countOf_1 (by rw [hc1]; decide) (by rw [hc1]; decide) (by rw [hc1]; rfl) (by decide) ?_
      refine ev_aload_n (q := 70) dX11_countOf_69 rfl rfl ?_
      replace h := Option.bind_eq_some_iff.mp h; obtain ⟨r2, hr2, h⟩ := h
      refine ev_gI dX11_countOf_70 fl_X11_119 hr2 rfl ?_
      cases h
      exact ev_iret dX11_countOf_73 rfl rfl
    · rw [if_neg hc1] at h
      by_cases hc2 : v1 = 2
      · rw [if_pos hc2] at h
        refine ev_table_in (q := 74) (off := 73) dX11_countOf_1 (by rw [hc2]; decide) (by rw [hc2]; decide) (by rw [hc2]; rfl) (by decide) ?_
        refine ev_aload_n (q := 75) dX11_countOf_74 rfl rfl ?_
        refine ev_aload_n (q := 76) dX11_countOf_75 rfl rfl ?_
        replace h := Option.bind_eq_some_iff.mp h; obtain ⟨r3, hr3, h⟩ := h
        refine ev_gR dX11_countOf_76 fl_X11_16 hr3 rfl ?_
        replace h := Option.bind_eq_some_iff.mp h; obtain ⟨q5, hq5, h⟩ := h
        obtain ⟨hxq5, fsq5, hkq5⟩ := kO_spec hq5
        cases hxq5
        replace h := Option.bind_eq_some_iff.mp h; obtain ⟨r4, hr4, h⟩ := h
        refine ev_invV (M1 := M_X11_sumOf) (as := [vr r3]) (fs := fsq5) (ci := 11) dX11_countOf_79 rfl tw_1208 cal_X11_sumOf tw_1210 tw_57 (by decide) rfl rfl (Nat.le_of_ble_eq_true rfl) hkq5 rfl (met_X11_sumOf o r3 w _ hr4) ?_
        cases h
        exact ev_iret dX11_countOf_82 rfl rfl
      · rw [if_neg hc2] at h
        by_cases hc3 : v1 = 3
        · rw [if_pos hc3] at h
          refine ev_table_in (q := 83) (off := 82) dX11_countOf_1 (by rw [hc3]; decide) (by rw [hc3]; decide) (by rw [hc3]; rfl) (by decide) ?_
          refine ev_aload_n (q := 84) dX11_countOf_83 rfl rfl ?_
          replace h := Option.bind_eq_some_iff.mp h; obtain ⟨r6, hr6, h⟩ := h
          refine ev_gI dX11_countOf_84 fl_X11_125 hr6 rfl ?_
          cases h
          exact ev_iret dX11_countOf_87 rfl rfl
        · rw [if_neg hc3] at h
          by_cases hc4 : v1 = 4
          · rw [if_pos hc4] at h
            refine ev_table_in (q := 88) (off := 87) dX11_countOf_1 (by rw [hc4]; decide) (by rw [hc4]; decide) (by rw [hc4]; rfl) (by decide) ?_
            refine ev_aload_n (q := 89) dX11_countOf_88 rfl rfl ?_
            replace h := Option.bind_eq_some_iff.mp h; obtain ⟨r7, hr7, h⟩ := h
            refine ev_gI dX11_countOf_89 fl_X11_122 hr7 rfl ?_
            refine ev_iconst (q := 93) (v := (1 : Int32)) dX11_countOf_92 rfl (by decide) ?_
            refine ev_iadd (q := 94) dX11_countOf_93 rfl ?_
            cases h
            exact ev_iret dX11_countOf_94 rfl rfl
          · rw [if_neg hc4] at h
            by_cases hc5 : v1 = 5
            · rw [if_pos hc5] at h
              refine ev_table_in (q := 95) (off := 94) dX11_countOf_1 (by rw [hc5]; decide) (by rw [hc5]; decide) (by rw [hc5]; rfl) (by decide) ?_
              refine ev_aload_n (q := 96) dX11_countOf_95 rfl rfl ?_
              replace h := Option.bind_eq_some_iff.mp h; obtain ⟨r8, hr8, h⟩ := h
              refine ev_gI dX11_countOf_96 fl_X11_128 hr8 rfl ?_
              cases h
              exact ev_iret dX11_countOf_99 rfl rfl
            · rw [if_neg hc5] at h
              by_cases hc6 : v1 = 6
              · rw [if_pos hc6] at h
                refine ev_table_in (q := 100) (off := 99) dX11_countOf_1 (by rw [hc6]; decide) (by rw [hc6]; decide) (by rw [hc6]; rfl) (by decide) ?_
                refine ev_aload_n (q := 101) dX11_countOf_100 rfl rfl ?_
                refine ev_aload_n (q := 102) dX11_countOf_101 rfl rfl ?_
                replace h := Option.bind_eq_some_iff.mp h; obtain ⟨r9, hr9, h⟩ := h
                refine ev_gR dX11_countOf_102 fl_X11_19 hr9 rfl ?_
                replace h := Option.bind_eq_some_iff.mp h; obtain ⟨q11, hq11, h⟩ := h
                obtain ⟨hxq11, fsq11, hkq11⟩ := kO_spec hq11
                cases hxq11
                replace h := Option.bind_eq_some_iff.mp h; obtain ⟨r10, hr10, h⟩ := h
                refine ev_invV (M1 := M_X11_sumOf) (as := [vr r9]) (fs := fsq11) (ci := 11) dX11_countOf_105 rfl tw_1208 cal_X11_sumOf tw_1210 tw_57 (by decide) rfl rfl (Nat.le_of_ble_eq_true rfl) hkq11 rfl (met_X11_sumOf o r9 w _ hr10) ?_
                cases h
                exact ev_iret dX11_countOf_108 rfl rfl
              · rw [if_neg hc6] at h
                by_cases hc7 : v1 = 7
                · rw [if_pos hc7] at h
                  refine ev_table_in (q := 109) (off := 108) dX11_countOf_1 (by rw [hc7]; decide) (by rw [hc7]; decide) (by rw [hc7]; rfl) (by decide) ?_
                  refine ev_aload_n (q := 110) dX11_countOf_109 rfl rfl ?_
                  refine ev_aload_n (q := 111) dX11_countOf_110 rfl rfl ?_
                  replace h := Option.bind_eq_some_iff.mp h; obtain ⟨r12, hr12, h⟩ := h
                  refine ev_gR dX11_countOf_111 fl_X11_22 hr12 rfl ?_
                  replace h := Option.bind_eq_some_iff.mp h; obtain ⟨q14, hq14, h⟩ := h
                  obtain ⟨hxq14, fsq14, hkq14⟩ := kO_spec hq14
                  cases hxq14
                  replace h := Option.bind_eq_some_iff.mp h; obtain ⟨r13, hr13, h⟩ := h
                  refine ev_invV (M1 := M_X11_sumOf) (as := [vr r12]) (fs := fsq14) (ci := 11) dX11_countOf_114 rfl tw_1208 cal_X11_sumOf tw_1210 tw_57 (by decide) rfl rfl (Nat.le_of_ble_eq_true rfl) hkq14 rfl (met_X11_sumOf o r12 w _ hr13) ?_
                  cases h
                  exact ev_iret dX11_countOf_117 rfl rfl
                · rw [if_neg hc7] at h
                  by_cases hc8 : v1 = 8
                  · rw [if_pos hc8] at h
                    refine ev_table_in (q := 118) (off := 117) dX11_countOf_1 (by rw [hc8]; decide) (by rw [hc8]; decide) (by rw [hc8]; rfl) (by decide) ?_
                    refine ev_aload_n (q := 119) dX11_countOf_118 rfl rfl ?_
                    replace h := Option.bind_eq_some_iff.mp h; obtain ⟨r15, hr15, h⟩ := h
                    refine ev_gI dX11_countOf_119 fl_X11_131 hr15 rfl ?_
                    cases h
                    exact ev_iret dX11_countOf_122 rfl rfl
                  · rw [if_neg hc8] at h
                    by_cases hc9 : v1 = 9
                    · rw [if_pos hc9] at h
                      refine ev_table_in (q := 123) (off := 122) dX11_countOf_1 (by rw [hc9]; decide) (by rw [hc9]; decide) (by rw [hc9]; rfl) (by decide) ?_
                      refine ev_aload_n (q := 124) dX11_countOf_123 rfl rfl ?_
                      replace h := Option.bind_eq_some_iff.mp h; obtain ⟨r16, hr16, h⟩ := h
                      refine ev_gI dX11_countOf_124 fl_X11_134 hr16 rfl ?_
                      cases h
                      exact ev_iret dX11_countOf_127 rfl rfl
                    · rw [if_neg hc9] at h
                      by_cases hc10 : v1 = 10
                      · rw [if_pos hc10] at h
                        refine ev_table_in (q := 128) (off := 127) dX11_countOf_1 (by rw [hc10]; decide) (by rw [hc10]; decide) (by rw [hc10]; rfl) (by decide) ?_
                        refine ev_aload_n (q := 129) dX11_countOf_128 rfl rfl ?_
                        replace h := Option.bind_eq_some_iff.mp h; obtain ⟨r17, hr17, h⟩ := h
                        refine ev_gI dX11_countOf_129 fl_X11_83 hr17 rfl ?_
                        cases h
                        exact ev_iret dX11_countOf_132 rfl rfl
                      · rw [if_neg hc10] at h
                        by_cases hc11 : v1 = 11
                        · rw [if_pos hc11] at h
                          refine ev_table_in (q := 133) (off := 132) dX11_countOf_1 (by rw [hc11]; decide) (by rw [hc11]; decide) (by rw [hc11]; rfl) (by decide) ?_
                          refine ev_aload_n (q := 134) dX11_countOf_133 rfl rfl ?_
                          replace h := Option.bind_eq_some_iff.mp h; obtain ⟨r18, hr18, h⟩ := h
                          refine ev_gI dX11_countOf_134 fl_X11_137 hr18 rfl ?_
                          cases h
                          exact ev_iret dX11_countOf_137 rfl rfl
                        · rw [if_neg hc11] at h
                          refine ev_table_out (q := 138) dX11_countOf_1 (by have z0 := mNe (z := 0) (by decide) hc0; have z1 := mNe (z := 1) (by decide) hc1; have z2 := mNe (z := 2) (by decide) hc2; have z3 := mNe (z := 3) (by decide) hc3; have z4 := mNe (z := 4) (by decide) hc4; have z5 := mNe (z := 5) (by decide) hc5; have z6 := mNe (z := 6) (by decide) hc6; have z7 := mNe (z := 7) (by decide) hc7; have z8 := mNe (z := 8) (by decide) hc8; have z9 := mNe (z := 9) (by decide) hc9; have z10 := mNe (z := 10) (by decide) hc10; have z11 := mNe (z := 11) (by decide) hc11; omega) (by decide) ?_
                          refine ev_bipush (q := 140) (v := (-102 : Int32)) dX11_countOf_138 rfl (by decide) ?_
                          cases h
                          exact ev_iret dX11_countOf_140 rfl rfl
def f_X11_image (o : Nat) (w : mW) : Option (Int32 × mW) := Option.bind (kO w (some o) 11) fun _ => Option.bind (f_X11_lacks o  w) fun r1 => if r1 = 0 then (Option.bind (gR w (some o) 11 10) fun r3 => Option.bind (gR w (some o) 11 31) fun r4 => Option.bind (f_X11_copy r3 r4 w) fun w5 => Option.bind (gR w5 (some o) 11 11) fun r6 => Option.bind (gR w5 (some o) 11 32) fun r7 => Option.bind (f_X11_copy r6 r7 w5) fun w8 => Option.bind (gR w8 (some o) 11 12) fun r9 => Option.bind (gR w8 (some o) 11 33) fun r10 => Option.bind (f_X11_copy r9 r10 w8) fun w11 => Option.bind (gR w11 (some o) 11 13) fun r12 => Option.bind (gR w11 (some o) 11 34) fun r13 => Option.bind (f_X11_copy r12 r13 w11) fun w14 => Option.bind (gR w14 (some o) 11 15) fun r15 => Option.bind (gR w14 (some o) 11 35) fun r16 => Option.bind (f_X11_copy r15 r16 w14) fun w17 => Option.bind (gR w17 (some o) 11 16) fun r18 => Option.bind (gR w17 (some o) 11 36) fun r19 => Option.bind (f_X11_copy r18 r19 w17) fun w20 => Option.bind (gR w20 (some o) 11 17) fun r21 => Option.bind (gR w20 (some o) 11 37) fun r22 => Option.bind (f_X11_copy r21 r22 w20) fun w23 => Option.bind (gR w23 (some o) 11 23) fun r24 => Option.bind (gR w23 (some o) 11 38) fun r25 => Option.bind (f_X11_copy r24 r25 w23) fun w26 => Option.bind (gI w26 (some o) 11 5) fun r27 => Option.bind (pI w26 (some o) 11 26 r27) fun w28 => Option.bind (gI w28 (some o) 11 6) fun r29 => Option.bind (pI w28 (some o) 11 27 r29) fun w30 => Option.bind (gI w30 (some o) 11 7) fun r31 => Option.bind (pI w30 (some o) 11 28 r31) fun w32 => Option.bind (gI w32 (some o) 11 8) fun r33 => Option.bind (pI w32 (some o) 11 29 r33) fun w34 => Option.bind (gI w34 (some o) 11 22) fun r35 => Option.bind (pI w34 (some o) 11 30 r35) fun w36 => Option.bind (gI w36 (some o) 11 9) fun r37 => Option.bind (pI w36 (some o) 11 25 r37) fun w38 => Option.bind (gI w38 (some o) 11 7) fun r39 => some ((r39, w38))) else (some (((-103 : Int32), w)))
set_option maxRecDepth 100000 in
set_option maxHeartbeats 4000000 in
theorem met_X11_image (o : Nat) (w : mW) (res : Int32 × mW) (h : f_X11_image o w = some res) : mMet M_X11_image 1 [vr ((some o))] w (some (vi res.1)) res.2 := by
  refine ev_met (n := 0) (by decide) rfl fun X => ?_
  unfold f_X11_image at h
  show mEv X M_X11_image 1 _ _ 0 [some (vr ((some o)))] [] w
  refine ev_aload_n (q := 1) dX11_image_0 rfl rfl ?_
  replace h := Option.bind_eq_some_iff.mp h; obtain ⟨q2, hq2, h⟩ := h
  obtain ⟨hxq2, fsq2, hkq2⟩ := kO_spec hq2
  cases hxq2
  replace h := Option.bind_eq_some_iff.mp h; obtain ⟨r1, hr1, h⟩ := h
  refine ev_invV (M1 := M_X11_lacks) (as := []) (fs := fsq2) (ci := 11) dX11_image_1 rfl tw_1104 cal_X11_lacks tw_1106 tw_48 (by decide) rfl rfl (Nat.le_of_ble_eq_true rfl) hkq2 rfl (met_X11_lacks o  w _ hr1) ?_
  by_cases hc : r1 = 0
  · rw [if_pos hc] at h
    refine ev_if_eq_t (q := 10) dX11_image_4 (by decide) hc ?_
    refine ev_aload_n (q := 11) dX11_image_10 rfl rfl ?_
    replace h := Option.bind_eq_some_iff.mp h; obtain ⟨r3, hr3, h⟩ := h
    refine ev_gR dX11_image_11 fl_X11_13 hr3 rfl ?_
    refine ev_aload_n (q := 15) dX11_image_14 rfl rfl ?_
    replace h := Option.bind_eq_some_iff.mp h; obtain ⟨r4, hr4, h⟩ := h
    refine ev_gR dX11_image_15 fl_X11_49 hr4 rfl ?_
    replace h := Option.bind_eq_some_iff.mp h; obtain ⟨w5, hw5, h⟩ := h
    refine ev_invS (M1 := M_X11_copy) (as := [vr r3, vr r4]) dX11_image_18 rfl tw_1193 cal_X11_copy tw_1194 (by decide) rfl rfl (Nat.le_of_ble_eq_true rfl) (met_X11_copy r3 r4 w _ hw5) ?_
    refine ev_aload_n (q := 22) dX11_image_21 rfl rfl ?_
    replace h := Option.bind_eq_some_iff.mp h; obtain ⟨r6, hr6, h⟩ := h
    refine ev_gR dX11_image_22 fl_X11_16 hr6 rfl ?_
    refine ev_aload_n (q := 26) dX11_image_25 rfl rfl ?_
    replace h := Option.bind_eq_some_iff.mp h; obtain ⟨r7, hr7, h⟩ := h
    refine ev_gR dX11_image_26 fl_X11_52 hr7 rfl ?_
    replace h := Option.bind_eq_some_iff.mp h; obtain ⟨w8, hw8, h⟩ := h
    refine ev_invS (M1 := M_X11_copy) (as := [vr r6, vr r7]) dX11_image_29 rfl tw_1193 cal_X11_copy tw_1194 (by decide) rfl rfl (Nat.le_of_ble_eq_true rfl) (met_X11_copy r6 r7 w5 _ hw8) ?_
    refine ev_aload_n (q := 33) dX11_image_32 rfl rfl ?_
    replace h := Option.bind_eq_some_iff.mp h; obtain ⟨r9, hr9, h⟩ := h
    refine ev_gR dX11_image_33 fl_X11_19 hr9 rfl ?_
    refine ev_aload_n (q := 37) dX11_image_36 rfl rfl ?_
    replace h := Option.bind_eq_some_iff.mp h; obtain ⟨r10, hr10, h⟩ := h
    refine ev_gR dX11_image_37 fl_X11_55 hr10 rfl ?_
    replace h := Option.bind_eq_some_iff.mp h; obtain ⟨w11, hw11, h⟩ := h
    refine ev_invS (M1 := M_X11_copy) (as := [vr r9, vr r10]) dX11_image_40 rfl tw_1193 cal_X11_copy tw_1194 (by decide) rfl rfl (Nat.le_of_ble_eq_true rfl) (met_X11_copy r9 r10 w8 _ hw11) ?_
    refine ev_aload_n (q := 44) dX11_image_43 rfl rfl ?_
    replace h := Option.bind_eq_some_iff.mp h; obtain ⟨r12, hr12, h⟩ := h
    refine ev_gR dX11_image_44 fl_X11_22 hr12 rfl ?_
    refine ev_aload_n (q := 48) dX11_image_47 rfl rfl ?_
    replace h := Option.bind_eq_some_iff.mp h; obtain ⟨r13, hr13, h⟩ := h
    refine ev_gR dX11_image_48 fl_X11_58 hr13 rfl ?_
    replace h := Option.bind_eq_some_iff.mp h; obtain ⟨w14, hw14, h⟩ := h
    refine ev_invS (M1 := M_X11_copy) (as := [vr r12, vr r13]) dX11_image_51 rfl tw_1193 cal_X11_copy tw_1194 (by decide) rfl rfl (Nat.le_of_ble_eq_true rfl) (met_X11_copy r12 r13 w11 _ hw14) ?_
    refine ev_aload_n (q := 55) dX11_image_54 rfl rfl ?_
    replace h := Option.bind_eq_some_iff.mp h; obtain ⟨r15, hr15, h⟩ := h
    refine ev_gR dX11_image_55 fl_X11_28 hr15 rfl ?_
    refine ev_aload_n (q := 59) dX11_image_58 rfl rfl ?_
    replace h := Option.bind_eq_some_iff.mp h; obtain ⟨r16, hr16, h⟩ := h
    refine ev_gR dX11_image_59 fl_X11_61 hr16 rfl ?_
    replace h := Option.bind_eq_some_iff.mp h; obtain ⟨w17, hw17, h⟩ := h
    refine ev_invS (M1 := M_X11_copy) (as := [vr r15, vr r16]) dX11_image_62 rfl tw_1193 cal_X11_copy tw_1194 (by decide) rfl rfl (Nat.le_of_ble_eq_true rfl) (met_X11_copy r15 r16 w14 _ hw17) ?_
    refine ev_aload_n (q := 66) dX11_image_65 rfl rfl ?_
    replace h := Option.bind_eq_some_iff.mp h; obtain ⟨r18, hr18, h⟩ := h
    refine ev_gR dX11_image_66 fl_X11_31 hr18 rfl ?_
    refine ev_aload_n (q := 70) dX11_image_69 rfl rfl ?_
    replace h := Option.bind_eq_some_iff.mp h; obtain ⟨r19, hr19, h⟩ := h
    refine ev_gR dX11_image_70 fl_X11_64 hr19 rfl ?_
    replace h := Option.bind_eq_some_iff.mp h; obtain ⟨w20, hw20, h⟩ := h
    refine ev_invS (M1 := M_X11_copy) (as := [vr r18, vr r19]) dX11_image_73 rfl tw_1193 cal_X11_copy tw_1194 (by decide) rfl rfl (Nat.le_of_ble_eq_true rfl) (met_X11_copy r18 r19 w17 _ hw20) ?_
    refine ev_aload_n (q := 77) dX11_image_76 rfl rfl ?_
    replace h := Option.bind_eq_some_iff.mp h; obtain ⟨r21, hr21, h⟩ := h
    refine ev_gR dX11_image_77 fl_X11_34 hr21 rfl ?_
    refine ev_aload_n (q := 81) dX11_image_80 rfl rfl ?_
    replace h := Option.bind_eq_some_iff.mp h; obtain ⟨r22, hr22, h⟩ := h
    refine ev_gR dX11_image_81 fl_X11_67 hr22 rfl ?_
    replace h := Option.bind_eq_some_iff.mp h; obtain ⟨w23, hw23, h⟩ := h
    refine ev_invS (M1 := M_X11_copy) (as := [vr r21, vr r22]) dX11_image_84 rfl tw_1193 cal_X11_copy tw_1194 (by decide) rfl rfl (Nat.le_of_ble_eq_true rfl) (met_X11_copy r21 r22 w20 _ hw23) ?_
    refine ev_aload_n (q := 88) dX11_image_87 rfl rfl ?_
    replace h := Option.bind_eq_some_iff.mp h; obtain ⟨r24, hr24, h⟩ := h
    refine ev_gR dX11_image_88 fl_X11_46 hr24 rfl ?_
    refine ev_aload_n (q := 92) dX11_image_91 rfl rfl ?_
    replace h := Option.bind_eq_some_iff.mp h; obtain ⟨r25, hr25, h⟩ := h
    refine ev_gR dX11_image_92 fl_X11_70 hr25 rfl ?_
    replace h := Option.bind_eq_some_iff.mp h; obtain ⟨w26, hw26, h⟩ := h
    refine ev_invS (M1 := M_X11_copy) (as := [vr r24, vr r25]) dX11_image_95 rfl tw_1193 cal_X11_copy tw_1194 (by decide) rfl rfl (Nat.le_of_ble_eq_true rfl) (met_X11_copy r24 r25 w23 _ hw26) ?_
    refine ev_aload_n (q := 99) dX11_image_98 rfl rfl ?_
    refine ev_aload_n (q := 100) dX11_image_99 rfl rfl ?_
    replace h := Option.bind_eq_some_iff.mp h; obtain ⟨r27, hr27, h⟩ := h
    refine ev_gI dX11_image_100 fl_X11_122 hr27 rfl ?_
    replace h := Option.bind_eq_some_iff.mp h; obtain ⟨w28, hw28, h⟩ := h
    refine ev_pI dX11_image_103 fp_X11_268 hw28 rfl ?_
    refine ev_aload_n (q := 107) dX11_image_106 rfl rfl ?_
    refine ev_aload_n (q := 108) dX11_image_107 rfl rfl ?_
    replace h := Option.bind_eq_some_iff.mp h; obtain ⟨r29, hr29, h⟩ := h
    refine ev_gI dX11_image_108 fl_X11_125 hr29 rfl ?_
    replace h := Option.bind_eq_some_iff.mp h; obtain ⟨w30, hw30, h⟩ := h
    refine ev_pI dX11_image_111 fp_X11_271 hw30 rfl ?_
    refine ev_aload_n (q := 115) dX11_image_114 rfl rfl ?_
    refine ev_aload_n (q := 116) dX11_image_115 rfl rfl ?_
    replace h := Option.bind_eq_some_iff.mp h; obtain ⟨r31, hr31, h⟩ := h
    refine ev_gI dX11_image_116 fl_X11_128 hr31 rfl ?_
    replace h := Option.bind_eq_some_iff.mp h; obtain ⟨w32, hw32, h⟩ := h
    refine ev_pI dX11_image_119 fp_X11_274 hw32 rfl ?_
    refine ev_aload_n (q := 123) dX11_image_122 rfl rfl ?_
    refine ev_aload_n (q := 124) dX11_image_123 rfl rfl ?_
    replace h := Option.bind_eq_some_iff.mp h; obtain ⟨r33, hr33, h⟩ := h
    refine ev_gI dX11_image_124 fl_X11_131 hr33 rfl ?_
    replace h := Option.bind_eq_some_iff.mp h; obtain ⟨w34, hw34, h⟩ := h
    refine ev_pI dX11_image_127 fp_X11_277 hw34 rfl ?_
    refine ev_aload_n (q := 131) dX11_image_130 rfl rfl ?_
    refine ev_aload_n (q := 132) dX11_image_131 rfl rfl ?_
    replace h := Option.bind_eq_some_iff.mp h; obtain ⟨r35, hr35, h⟩ := h
    refine ev_gI dX11_image_132 fl_X11_134 hr35 rfl ?_
    replace h := Option.bind_eq_some_iff.mp h; obtain ⟨w36, hw36, h⟩ := h
    refine ev_pI dX11_image_135 fp_X11_280 hw36 rfl ?_
    refine ev_aload_n (q := 139) dX11_image_138 rfl rfl ?_
    refine ev_aload_n (q := 140) dX11_image_139 rfl rfl ?_
    replace h := Option.bind_eq_some_iff.mp h; obtain ⟨r37, hr37, h⟩ := h
    refine ev_gI dX11_image_140 fl_X11_137 hr37 rfl ?_
    replace h := Option.bind_eq_some_iff.mp h; obtain ⟨w38, hw38, h⟩ := h
    refine ev_pI dX11_image_143 fp_X11_73 hw38 rfl ?_
    refine ev_aload_n (q := 147) dX11_image_146 rfl rfl ?_
    replace h := Option.bind_eq_some_iff.mp h; obtain ⟨r39, hr39, h⟩ := h
    refine ev_gI dX11_image_147 fl_X11_128 hr39 rfl ?_
    cases h
    exact ev_iret dX11_image_150 rfl rfl
  · rw [if_neg hc] at h
    refine ev_if_eq_f (q := 7) (t0 := 10) dX11_image_4 (by decide) rfl hc ?_
    refine ev_bipush (q := 9) (v := (-103 : Int32)) dX11_image_7 rfl (by decide) ?_
    cases h
    exact ev_iret dX11_image_9 rfl rfl
def f_X11_isCell (v0 : Int32) (w : mW) : Option (Int32) := Option.bind (f_X11_in v0.toInt64 (0 : Int64) (35 : Int64) w) fun r1 => if r1 = 0 ∨ r1 = 1 then some (r1) else none
set_option maxRecDepth 100000 in
set_option maxHeartbeats 4000000 in
theorem met_X11_isCell (v0 : Int32) (w : mW) (res : Int32) (h : f_X11_isCell v0 w = some res) : mMet M_X11_isCell 1 [vi v0] w (some (vi res)) w := by
  refine ev_met (n := 0) (by decide) rfl fun X => ?_
  unfold f_X11_isCell at h
  show mEv X M_X11_isCell 1 _ _ 0 [some (vi v0)] [] w
  refine ev_iload_n (q := 1) dX11_isCell_0 rfl rfl ?_
  refine ev_i2l (q := 2) dX11_isCell_1 rfl ?_
  refine ev_lconst (q := 3) (v := (0 : Int64)) dX11_isCell_2 rfl (by decide) ?_
  refine ev_ldc2 (q := 6) (v := (35 : Int64)) dX11_isCell_3 rfl tw_1006 ?_
  replace h := Option.bind_eq_some_iff.mp h; obtain ⟨r1, hr1, h⟩ := h
  refine ev_invS (M1 := M_X11_in) (as := [vl v0.toInt64, vl ((0 : Int64)), vl ((35 : Int64))]) dX11_isCell_6 rfl tw_954 cal_X11_in tw_955 (by decide) rfl rfl (Nat.le_of_ble_eq_true rfl) (met_X11_in v0.toInt64 (0 : Int64) (35 : Int64) w _ hr1) ?_
  by_cases hz : r1 = 0 ∨ r1 = 1
  · rw [if_pos hz] at h
    cases h
    exact ev_zret dX11_isCell_9 rfl hz
  · rw [if_neg hz] at h
    cases h
def f_X11_isNew_J35 (kc : Int32 → Int32 → Option (Int32)) (o : Nat) (v1 : Int32) (v3 : Int32) (s0 : Int32) (w : mW) : Option (Int32) := kc s0 (v3 + (3 : Int32))
set_option maxRecDepth 100000 in
set_option maxHeartbeats 4000000 in
theorem e_X11_isNew_J35 {X : mXs} {r : Option mV} {w' : mW} (P : (Int32) → Prop) (o : Nat) (v1 : Int32) (v3 : Int32) (s0 : Int32) (w : mW) (kc : Int32 → Int32 → Option (Int32)) (hk : ∀ (u2 : Int32) (u3 : Int32) (e : Int32), kc u2 u3 = some e → P e → mEv X M_X11_isNew 1 r w' 4 [some (vr ((some o))), some (vi v1), some (vi u2), some (vi u3)] [] w) (e : Int32) (h : f_X11_isNew_J35 kc o v1 v3 s0 w = some e) (hP : P e) : mEv X M_X11_isNew 1 r w' 35 [some (vr ((some o))), some (vi v1), none, some (vi v3)] [vi s0] w := by
  unfold f_X11_isNew_J35 at h
  refine ev_istore_n (q := 36) dX11_isNew_35 rfl (by decide) ?_
  refine ev_iinc (q := 39) (v := v3 + (3 : Int32)) dX11_isNew_36 rfl (by decide) rfl (by rfl) ?_
  refine ev_goto (q := 4) dX11_isNew_39 (by decide) ?_
  exact ev_weak _ (mLe_some (mLe_some (mLe_some (mLe_some mLe_nil)))) (hk s0 (v3 + (3 : Int32)) _ h hP)
def f_X11_isNew_J34 (kc : Int32 → Int32 → Option (Int32)) (o : Nat) (v1 : Int32) (v3 : Int32) (w : mW) : Option (Int32) := f_X11_isNew_J35 kc o v1 v3 (0 : Int32) w
set_option maxRecDepth 100000 in
set_option maxHeartbeats 4000000 in
theorem e_X11_isNew_J34 {X : mXs} {r : Option mV} {w' : mW} (P : (Int32) → Prop) (o : Nat) (v1 : Int32) (v3 : Int32) (w : mW) (kc : Int32 → Int32 → Option (Int32)) (hk : ∀ (u2 : Int32) (u3 : Int32) (e : Int32), kc u2 u3 = some e → P e → mEv X M_X11_isNew 1 r w' 4 [some (vr ((some o))), some (vi v1), some (vi u2), some (vi u3)] [] w) (e : Int32) (h : f_X11_isNew_J34 kc o v1 v3 w = some e) (hP : P e) : mEv X M_X11_isNew 1 r w' 34 [some (vr ((some o))), some (vi v1), none, some (vi v3)] [] w := by
  unfold f_X11_isNew_J34 at h
  refine ev_iconst (q := 35) (v := (0 : Int32)) dX11_isNew_34 rfl (by decide) ?_
  exact ev_weak _ (mLe_some (mLe_some (mLe_none (mLe_some mLe_nil)))) (e_X11_isNew_J35 P o v1 v3 (0 : Int32) w _ hk  _ h hP)
def f_X11_isNew_L4 (o : Nat) (v1 : Int32) (w : mW) : Nat → Int32 → Int32 → Option (Int32)
  | 0, _, _ => none
  | n + 1, v2, v3 => if v1 - (1 : Int32) ≤ v3 then (some (v2)) else (if v2 = 0 then (f_X11_isNew_J34 (f_X11_isNew_L4 o v1 w n) o v1 v3 w) else (Option.bind (kO w (some o) 11) fun _ => Option.bind (f_X11_cellAt o v3 w) fun r1 => Option.bind (kO w (some o) 11) fun _ => Option.bind (f_X11_cellAt o (v1 - (1 : Int32)) w) fun r3 => if r1 = r3 then (f_X11_isNew_J34 (f_X11_isNew_L4 o v1 w n) o v1 v3 w) else (f_X11_isNew_J35 (f_X11_isNew_L4 o v1 w n) o v1 v3 (1 : Int32) w)))
set_option maxRecDepth 100000 in
set_option maxHeartbeats 4000000 in
theorem e_X11_isNew_L4 {X : mXs} {r : Option mV} {w' : mW} (P : (Int32) → Prop) (o : Nat) (v1 : Int32) (w : mW) (hexit : ∀ y, P y → mEv X M_X11_isNew 1 r w' 42 [none, none, some (vi y), none] [] w) : ∀ (n : Nat) (v2 : Int32) (v3 : Int32) (e : Int32), f_X11_isNew_L4 o v1 w n v2 v3 = some e → P e → mEv X M_X11_isNew 1 r w' 4 [some (vr ((some o))), some (vi v1), some (vi v2), some (vi v3)] [] w := by
  intro n
  induction n with
  | zero =>
    intro v2 v3 e h hP
    rw [f_X11_isNew_L4] at h
    cases h
  | succ n hk =>
    intro v2 v3 e h hP
    rw [f_X11_isNew_L4] at h
    refine ev_iload_n (q := 5) dX11_isNew_4 rfl rfl ?_
    refine ev_iload_n (q := 6) dX11_isNew_5 rfl rfl ?_
    refine ev_iconst (q := 7) (v := (1 : Int32)) dX11_isNew_6 rfl (by decide) ?_
    refine ev_isub (q := 8) dX11_isNew_7 rfl ?_
    by_cases hc : v1 - (1 : Int32) ≤ v3
    · rw [if_pos hc] at h
      refine ev_icmp_ge_t (q := 42) dX11_isNew_8 (by decide) hc ?_
      cases h
      exact ev_weak _ (mLe_none (mLe_none (mLe_some (mLe_none mLe_nil)))) (hexit _ hP)
    · rw [if_neg hc] at h
      refine ev_icmp_ge_f (q := 11) (t0 := 42) dX11_isNew_8 (by decide) rfl hc ?_
      refine ev_iload_n (q := 12) dX11_isNew_11 rfl rfl ?_
      by_cases hc : v2 = 0
      · rw [if_pos hc] at h
        refine ev_if_eq_t (q := 34) dX11_isNew_12 (by decide) hc ?_
        exact ev_weak _ (mLe_some (mLe_some (mLe_none (mLe_some mLe_nil)))) (e_X11_isNew_J34 P o v1 v3 w _ hk  _ h hP)
      · rw [if_neg hc] at h
        refine ev_if_eq_f (q := 15) (t0 := 34) dX11_isNew_12 (by decide) rfl hc ?_
        refine ev_aload_n (q := 16) dX11_isNew_15 rfl rfl ?_
        refine ev_iload_n (q := 17) dX11_isNew_16 rfl rfl ?_
        replace h := Option.bind_eq_some_iff.mp h; obtain ⟨q2, hq2, h⟩ := h
        obtain ⟨hxq2, fsq2, hkq2⟩ := kO_spec hq2
        cases hxq2
        replace h := Option.bind_eq_some_iff.mp h; obtain ⟨r1, hr1, h⟩ := h
        refine ev_invV (M1 := M_X11_cellAt) (as := [vi v3]) (fs := fsq2) (ci := 11) dX11_isNew_17 rfl tw_979 cal_X11_cellAt tw_981 tw_32 (by decide) rfl rfl (Nat.le_of_ble_eq_true rfl) hkq2 rfl (met_X11_cellAt o v3 w _ hr1) ?_
        refine ev_aload_n (q := 21) dX11_isNew_20 rfl rfl ?_
        refine ev_iload_n (q := 22) dX11_isNew_21 rfl rfl ?_
        refine ev_iconst (q := 23) (v := (1 : Int32)) dX11_isNew_22 rfl (by decide) ?_
        refine ev_isub (q := 24) dX11_isNew_23 rfl ?_
        replace h := Option.bind_eq_some_iff.mp h; obtain ⟨q4, hq4, h⟩ := h
        obtain ⟨hxq4, fsq4, hkq4⟩ := kO_spec hq4
        cases hxq4
        replace h := Option.bind_eq_some_iff.mp h; obtain ⟨r3, hr3, h⟩ := h
        refine ev_invV (M1 := M_X11_cellAt) (as := [vi (v1 - (1 : Int32))]) (fs := fsq4) (ci := 11) dX11_isNew_24 rfl tw_979 cal_X11_cellAt tw_981 tw_32 (by decide) rfl rfl (Nat.le_of_ble_eq_true rfl) hkq4 rfl (met_X11_cellAt o (v1 - (1 : Int32)) w _ hr3) ?_
        by_cases hc : r1 = r3
        · rw [if_pos hc] at h
          refine ev_icmp_eq_t (q := 34) dX11_isNew_27 (by decide) hc ?_
          exact ev_weak _ (mLe_some (mLe_some (mLe_none (mLe_some mLe_nil)))) (e_X11_isNew_J34 P o v1 v3 w _ hk  _ h hP)
        · rw [if_neg hc] at h
          refine ev_icmp_eq_f (q := 30) (t0 := 34) dX11_isNew_27 (by decide) rfl hc ?_
          refine ev_iconst (q := 31) (v := (1 : Int32)) dX11_isNew_30 rfl (by decide) ?_
          refine ev_goto (q := 35) dX11_isNew_31 (by decide) ?_
          exact ev_weak _ (mLe_some (mLe_some (mLe_none (mLe_some mLe_nil)))) (e_X11_isNew_J35 P o v1 v3 (1 : Int32) w _ hk  _ h hP)
def f_X11_isNew (o : Nat) (v1 : Int32) (w : mW) : Option (Int32) := Option.bind (f_X11_isNew_L4 o v1 w mFuel (1 : Int32) (0 : Int32)) fun e5 => if e5 = 0 ∨ e5 = 1 then some (e5) else none
set_option maxRecDepth 100000 in
set_option maxHeartbeats 4000000 in
theorem met_X11_isNew (o : Nat) (v1 : Int32) (w : mW) (res : Int32) (h : f_X11_isNew o v1 w = some res) : mMet M_X11_isNew 1 [vr ((some o)), vi v1] w (some (vi res)) w := by
  refine ev_met (n := 2) (by decide) rfl fun X => ?_
  unfold f_X11_isNew at h
  show mEv X M_X11_isNew 1 _ _ 0 [some (vr ((some o))), some (vi v1), none, none] [] w
  refine ev_iconst (q := 1) (v := (1 : Int32)) dX11_isNew_0 rfl (by decide) ?_
  refine ev_istore_n (q := 2) dX11_isNew_1 rfl (by decide) ?_
  refine ev_iconst (q := 3) (v := (0 : Int32)) dX11_isNew_2 rfl (by decide) ?_
  refine ev_istore_n (q := 4) dX11_isNew_3 rfl (by decide) ?_
  replace h := Option.bind_eq_some_iff.mp h; obtain ⟨e5, he5, h⟩ := h
  refine ev_weak _ (mLe_some (mLe_some (mLe_some (mLe_some mLe_nil)))) (e_X11_isNew_L4 (fun z => e5 = z) o v1 w (fun e5q hq => ?_) mFuel (1 : Int32) (0 : Int32) _ he5 rfl)
  subst hq
  refine ev_iload_n (q := 43) dX11_isNew_42 rfl rfl ?_
  by_cases hz : e5 = 0 ∨ e5 = 1
  · rw [if_pos hz] at h
    cases h
    exact ev_zret dX11_isNew_43 rfl hz
  · rw [if_neg hz] at h
    cases h
def f_X11_isSleeper (o : Nat) (v1 : Int32) (w : mW) : Option (Int32) := Option.bind (gI w (some o) 11 3) fun r1 => Option.bind (f_X11_in v1.toInt64 (0 : Int64) ((r1 - (1 : Int32)).toInt64) w) fun r2 => if r2 = 0 ∨ r2 = 1 then some (r2) else none
set_option maxRecDepth 100000 in
set_option maxHeartbeats 4000000 in
theorem met_X11_isSleeper (o : Nat) (v1 : Int32) (w : mW) (res : Int32) (h : f_X11_isSleeper o v1 w = some res) : mMet M_X11_isSleeper 1 [vr ((some o)), vi v1] w (some (vi res)) w := by
  refine ev_met (n := 0) (by decide) rfl fun X => ?_
  unfold f_X11_isSleeper at h
  show mEv X M_X11_isSleeper 1 _ _ 0 [some (vr ((some o))), some (vi v1)] [] w
  refine ev_iload_n (q := 1) dX11_isSleeper_0 rfl rfl ?_
  refine ev_i2l (q := 2) dX11_isSleeper_1 rfl ?_
  refine ev_lconst (q := 3) (v := (0 : Int64)) dX11_isSleeper_2 rfl (by decide) ?_
  refine ev_aload_n (q := 4) dX11_isSleeper_3 rfl rfl ?_
  replace h := Option.bind_eq_some_iff.mp h; obtain ⟨r1, hr1, h⟩ := h
  refine ev_gI dX11_isSleeper_4 fl_X11_116 hr1 rfl ?_
  refine ev_iconst (q := 8) (v := (1 : Int32)) dX11_isSleeper_7 rfl (by decide) ?_
  refine ev_isub (q := 9) dX11_isSleeper_8 rfl ?_
  refine ev_i2l (q := 10) dX11_isSleeper_9 rfl ?_
  replace h := Option.bind_eq_some_iff.mp h; obtain ⟨r2, hr2, h⟩ := h
  refine ev_invS (M1 := M_X11_in) (as := [vl v1.toInt64, vl ((0 : Int64)), vl ((r1 - (1 : Int32)).toInt64)]) dX11_isSleeper_10 rfl tw_954 cal_X11_in tw_955 (by decide) rfl rfl (Nat.le_of_ble_eq_true rfl) (met_X11_in v1.toInt64 (0 : Int64) ((r1 - (1 : Int32)).toInt64) w _ hr2) ?_
  by_cases hz : r2 = 0 ∨ r2 = 1
  · rw [if_pos hz] at h
    cases h
    exact ev_zret dX11_isSleeper_13 rfl hz
  · rw [if_neg hz] at h
    cases h
def f_X11_isTosser (o : Nat) (v1 : Int32) (w : mW) : Option (Int32) := Option.bind (gI w (some o) 11 4) fun r1 => Option.bind (f_X11_in v1.toInt64 (0 : Int64) ((r1 - (1 : Int32)).toInt64) w) fun r2 => if r2 = 0 ∨ r2 = 1 then some (r2) else none
set_option maxRecDepth 100000 in
set_option maxHeartbeats 4000000 in
theorem met_X11_isTosser (o : Nat) (v1 : Int32) (w : mW) (res : Int32) (h : f_X11_isTosser o v1 w = some res) : mMet M_X11_isTosser 1 [vr ((some o)), vi v1] w (some (vi res)) w := by
  refine ev_met (n := 0) (by decide) rfl fun X => ?_
  unfold f_X11_isTosser at h
  show mEv X M_X11_isTosser 1 _ _ 0 [some (vr ((some o))), some (vi v1)] [] w
  refine ev_iload_n (q := 1) dX11_isTosser_0 rfl rfl ?_
  refine ev_i2l (q := 2) dX11_isTosser_1 rfl ?_
  refine ev_lconst (q := 3) (v := (0 : Int64)) dX11_isTosser_2 rfl (by decide) ?_
  refine ev_aload_n (q := 4) dX11_isTosser_3 rfl rfl ?_
  replace h := Option.bind_eq_some_iff.mp h; obtain ⟨r1, hr1, h⟩ := h
  refine ev_gI dX11_isTosser_4 fl_X11_119 hr1 rfl ?_
  refine ev_iconst (q := 8) (v := (1 : Int32)) dX11_isTosser_7 rfl (by decide) ?_
  refine ev_isub (q := 9) dX11_isTosser_8 rfl ?_
  refine ev_i2l (q := 10) dX11_isTosser_9 rfl ?_
  replace h := Option.bind_eq_some_iff.mp h; obtain ⟨r2, hr2, h⟩ := h
  refine ev_invS (M1 := M_X11_in) (as := [vl v1.toInt64, vl ((0 : Int64)), vl ((r1 - (1 : Int32)).toInt64)]) dX11_isTosser_10 rfl tw_954 cal_X11_in tw_955 (by decide) rfl rfl (Nat.le_of_ble_eq_true rfl) (met_X11_in v1.toInt64 (0 : Int64) ((r1 - (1 : Int32)).toInt64) w _ hr2) ?_
  by_cases hz : r2 = 0 ∨ r2 = 1
  · rw [if_pos hz] at h
    cases h
    exact ev_zret dX11_isTosser_13 rfl hz
  · rw [if_neg hz] at h
    cases h
def f_X11_isTosserLetter_J75 (s0 : Int32) (w : mW) : Option (Int32) := if s0 = 0 ∨ s0 = 1 then some (s0) else none
set_option maxRecDepth 100000 in
set_option maxHeartbeats 4000000 in
theorem e_X11_isTosserLetter_J75 {X : mXs} (s0 : Int32) (w : mW) (res : Int32) (h : f_X11_isTosserLetter_J75 s0 w = some res) : mEv X M_X11_isTosserLetter 1 (some (vi res)) w 75 [none, none, none, none] [vi s0] w := by
  unfold f_X11_isTosserLetter_J75 at h
  by_cases hz : s0 = 0 ∨ s0 = 1
  · rw [if_pos hz] at h
    cases h
    exact ev_zret dX11_isTosserLetter_75 rfl hz
  · rw [if_neg hz] at h
    cases h
def f_X11_isTosserLetter_J74 (w : mW) : Option (Int32) := f_X11_isTosserLetter_J75 (0 : Int32) w
set_option maxRecDepth 100000 in
set_option maxHeartbeats 4000000 in
theorem e_X11_isTosserLetter_J74 {X : mXs} (w : mW) (res : Int32) (h : f_X11_isTosserLetter_J74 w = some res) : mEv X M_X11_isTosserLetter 1 (some (vi res)) w 74 [none, none, none, none] [] w := by
  unfold f_X11_isTosserLetter_J74 at h
  refine ev_iconst (q := 75) (v := (0 : Int32)) dX11_isTosserLetter_74 rfl (by decide) ?_
  exact ev_weak _ (mLe_none (mLe_none (mLe_none (mLe_none mLe_nil)))) (e_X11_isTosserLetter_J75 (0 : Int32) w _ h)
def f_X11_isTosserLetter_J57 (s0 : Int32) (w : mW) : Option (Int32) := if s0 = 0 ∨ s0 = 1 then some (s0) else none
set_option maxRecDepth 100000 in
set_option maxHeartbeats 4000000 in
theorem e_X11_isTosserLetter_J57 {X : mXs} (s0 : Int32) (w : mW) (res : Int32) (h : f_X11_isTosserLetter_J57 s0 w = some res) : mEv X M_X11_isTosserLetter 1 (some (vi res)) w 57 [none, none, none, none] [vi s0] w := by
  unfold f_X11_isTosserLetter_J57 at h
  by_cases hz : s0 = 0 ∨ s0 = 1
  · rw [if_pos hz] at h
    cases h
    exact ev_zret dX11_isTosserLetter_57 rfl hz
  · rw [if_neg hz] at h
    cases h
def f_X11_isTosserLetter (o : Nat) (v1 : Int32) (w : mW) : Option (Int32) := Option.bind (gR w (some o) 11 0) fun r1 => Option.bind (aL w r1 v1) fun r2 => Option.bind (gI w (some o) 11 2) fun r3 => if ((v1 - r3) - (1 : Int32)) - ((v1 - r3) - (1 : Int32)) / (4 : Int32) * (4 : Int32) = 0 then (Option.bind (f_X11_kindBy r2 w) fun r4 => if r4 = (-1 : Int32) then (f_X11_isTosserLetter_J57 (0 : Int32) w) else (f_X11_isTosserLetter_J57 (1 : Int32) w)) else (if ((v1 - r3) - (1 : Int32)) - ((v1 - r3) - (1 : Int32)) / (4 : Int32) * (4 : Int32) = 3 then (if r2 = (44 : Int32) then (if (15 : Int32) ≤ (v1 - r3) - (1 : Int32) then (f_X11_isTosserLetter_J74 w) else (f_X11_isTosserLetter_J75 (1 : Int32) w)) else (f_X11_isTosserLetter_J74 w)) else (Option.bind (f_X11_in r2.toInt64 (48 : Int64) (52 : Int64) w) fun r5 => if r5 = 0 ∨ r5 = 1 then some (r5) else none))
set_option maxRecDepth 100000 in
set_option maxHeartbeats 4000000 in
theorem met_X11_isTosserLetter (o : Nat) (v1 : Int32) (w : mW) (res : Int32) (h : f_X11_isTosserLetter o v1 w = some res) : mMet M_X11_isTosserLetter 1 [vr ((some o)), vi v1] w (some (vi res)) w := by
  refine ev_met (n := 2) (by decide) rfl fun X => ?_
  unfold f_X11_isTosserLetter at h
  show mEv X M_X11_isTosserLetter 1 _ _ 0 [some (vr ((some o))), some (vi v1), none, none] [] w
  refine ev_aload_n (q := 1) dX11_isTosserLetter_0 rfl rfl ?_
  replace h := Option.bind_eq_some_iff.mp h; obtain ⟨r1, hr1, h⟩ := h
  refine ev_gR dX11_isTosserLetter_1 fl_X11_7 hr1 rfl ?_
  refine ev_iload_n (q := 5) dX11_isTosserLetter_4 rfl rfl ?_
  replace h := Option.bind_eq_some_iff.mp h; obtain ⟨r2, hr2, h⟩ := h
  refine ev_aL dX11_isTosserLetter_5 hr2 rfl ?_
  refine ev_istore_n (q := 7) dX11_isTosserLetter_6 rfl (by decide) ?_
  refine ev_iload_n (q := 8) dX11_isTosserLetter_7 rfl rfl ?_
  refine ev_aload_n (q := 9) dX11_isTosserLetter_8 rfl rfl ?_
  replace h := Option.bind_eq_some_iff.mp h; obtain ⟨r3, hr3, h⟩ := h
  refine ev_gI dX11_isTosserLetter_9 fl_X11_98 hr3 rfl ?_
  refine ev_isub (q := 13) dX11_isTosserLetter_12 rfl ?_
  refine ev_iconst (q := 14) (v := (1 : Int32)) dX11_isTosserLetter_13 rfl (by decide) ?_
  refine ev_isub (q := 15) dX11_isTosserLetter_14 rfl ?_
  refine ev_istore_n (q := 16) dX11_isTosserLetter_15 rfl (by decide) ?_
  refine ev_iload_n (q := 17) dX11_isTosserLetter_16 rfl rfl ?_
  refine ev_iconst (q := 18) (v := (4 : Int32)) dX11_isTosserLetter_17 rfl (by decide) ?_
  refine ev_irem (q := 19) dX11_isTosserLetter_18 rfl (by decide) ?_
  by_cases hc0 : ((v1 - r3) - (1 : Int32)) - ((v1 - r3) - (1 : Int32)) / (4 : Int32) * (4 : Int32) = 0
  · rw [if_pos hc0] at h
    refine ev_lookup (q := 44) (off := 25) dX11_isTosserLetter_19 (by decide) (by rw [hc0]; rfl) (by decide) ?_
    refine ev_iload_n (q := 45) dX11_isTosserLetter_44 rfl rfl ?_
    replace h := Option.bind_eq_some_iff.mp h; obtain ⟨r4, hr4, h⟩ := h
    refine ev_invS (M1 := M_X11_kindBy) (as := [vi r2]) dX11_isTosserLetter_45 rfl tw_987 cal_X11_kindBy tw_988 (by decide) rfl rfl (Nat.le_of_ble_eq_true rfl) (met_X11_kindBy r2 w _ hr4) ?_
    refine ev_iconst (q := 49) (v := (-1 : Int32)) dX11_isTosserLetter_48 rfl (by decide) ?_
    by_cases hc : r4 = (-1 : Int32)
    · rw [if_pos hc] at h
      refine ev_icmp_eq_t (q := 56) dX11_isTosserLetter_49 (by decide) hc ?_
      refine ev_iconst (q := 57) (v := (0 : Int32)) dX11_isTosserLetter_56 rfl (by decide) ?_
      exact ev_weak _ (mLe_none (mLe_none (mLe_none (mLe_none mLe_nil)))) (e_X11_isTosserLetter_J57 (0 : Int32) w _ h)
    · rw [if_neg hc] at h
      refine ev_icmp_eq_f (q := 52) (t0 := 56) dX11_isTosserLetter_49 (by decide) rfl hc ?_
      refine ev_iconst (q := 53) (v := (1 : Int32)) dX11_isTosserLetter_52 rfl (by decide) ?_
      refine ev_goto (q := 57) dX11_isTosserLetter_53 (by decide) ?_
      exact ev_weak _ (mLe_none (mLe_none (mLe_none (mLe_none mLe_nil)))) (e_X11_isTosserLetter_J57 (1 : Int32) w _ h)
  · rw [if_neg hc0] at h
    by_cases hc3 : ((v1 - r3) - (1 : Int32)) - ((v1 - r3) - (1 : Int32)) / (4 : Int32) * (4 : Int32) = 3
    · rw [if_pos hc3] at h
      refine ev_lookup (q := 58) (off := 39) dX11_isTosserLetter_19 (by decide) (by rw [hc3]; rfl) (by decide) ?_
      refine ev_iload_n (q := 59) dX11_isTosserLetter_58 rfl rfl ?_
      refine ev_bipush (q := 61) (v := (44 : Int32)) dX11_isTosserLetter_59 rfl (by decide) ?_
      by_cases hc : r2 = (44 : Int32)
      · rw [if_pos hc] at h
        refine ev_icmp_ne_f (q := 64) (t0 := 74) dX11_isTosserLetter_61 (by decide) rfl hc ?_
        refine ev_iload_n (q := 65) dX11_isTosserLetter_64 rfl rfl ?_
        refine ev_bipush (q := 67) (v := (15 : Int32)) dX11_isTosserLetter_65 rfl (by decide) ?_
        by_cases hc : (15 : Int32) ≤ (v1 - r3) - (1 : Int32)
        · rw [if_pos hc] at h
          refine ev_icmp_ge_t (q := 74) dX11_isTosserLetter_67 (by decide) hc ?_
          exact ev_weak _ (mLe_none (mLe_none (mLe_none (mLe_none mLe_nil)))) (e_X11_isTosserLetter_J74 w _ h)
        · rw [if_neg hc] at h
          refine ev_icmp_ge_f (q := 70) (t0 := 74) dX11_isTosserLetter_67 (by decide) rfl hc ?_
          refine ev_iconst (q := 71) (v := (1 : Int32)) dX11_isTosserLetter_70 rfl (by decide) ?_
          refine ev_goto (q := 75) dX11_isTosserLetter_71 (by decide) ?_
          exact ev_weak _ (mLe_none (mLe_none (mLe_none (mLe_none mLe_nil)))) (e_X11_isTosserLetter_J75 (1 : Int32) w _ h)
      · rw [if_neg hc] at h
        refine ev_icmp_ne_t (q := 74) dX11_isTosserLetter_61 (by decide) hc ?_
        exact ev_weak _ (mLe_none (mLe_none (mLe_none (mLe_none mLe_nil)))) (e_X11_isTosserLetter_J74 w _ h)
    · rw [if_neg hc3] at h
      refine ev_lookup (q := 76) (off := 57) dX11_isTosserLetter_19 (by decide) (by have z0 := mNe (z := 0) (by decide) hc0; have z3 := mNe (z := 3) (by decide) hc3; simp only [lookupswitch.offset]; rw [if_neg (fun e => z0 e.symm)]; rw [if_neg (fun e => z3 e.symm)]) (by decide) ?_
      refine ev_iload_n (q := 77) dX11_isTosserLetter_76 rfl rfl ?_
      refine ev_i2l (q := 78) dX11_isTosserLetter_77 rfl ?_
      refine ev_ldc2 (q := 81) (v := (48 : Int64)) dX11_isTosserLetter_78 rfl tw_973 ?_
      refine ev_ldc2 (q := 84) (v := (52 : Int64)) dX11_isTosserLetter_81 rfl tw_990 ?_
      replace h := Option.bind_eq_some_iff.mp h; obtain ⟨r5, hr5, h⟩ := h
      refine ev_invS (M1 := M_X11_in) (as := [vl r2.toInt64, vl ((48 : Int64)), vl ((52 : Int64))]) dX11_isTosserLetter_84 rfl tw_954 cal_X11_in tw_955 (by decide) rfl rfl (Nat.le_of_ble_eq_true rfl) (met_X11_in r2.toInt64 (48 : Int64) (52 : Int64) w _ hr5) ?_
      by_cases hz : r5 = 0 ∨ r5 = 1
      · rw [if_pos hz] at h
        cases h
        exact ev_zret dX11_isTosserLetter_87 rfl hz
      · rw [if_neg hz] at h
        cases h
def f_X11_letter (o : Nat) (v1 : Int32) (w : mW) : Option (Int32 × mW) := Option.bind (f_X11_in v1.toInt64 (1 : Int64) (126 : Int64) w) fun r1 => if r1 = 0 then (some (((-102 : Int32), w))) else (Option.bind (gI w (some o) 11 1) fun r2 => if r2 = (36 : Int32) then (some (((-104 : Int32), w))) else (Option.bind (gR w (some o) 11 0) fun r3 => Option.bind (gI w (some o) 11 1) fun r4 => Option.bind (aS w r3 r4 v1) fun w5 => Option.bind (gI w5 (some o) 11 1) fun r6 => Option.bind (pI w5 (some o) 11 1 (r6 + (1 : Int32))) fun w7 => Option.bind (gI w7 (some o) 11 1) fun r8 => some ((r8, w7))))
set_option maxRecDepth 100000 in
set_option maxHeartbeats 4000000 in
theorem met_X11_letter (o : Nat) (v1 : Int32) (w : mW) (res : Int32 × mW) (h : f_X11_letter o v1 w = some res) : mMet M_X11_letter 1 [vr ((some o)), vi v1] w (some (vi res.1)) res.2 := by
  refine ev_met (n := 0) (by decide) rfl fun X => ?_
  unfold f_X11_letter at h
  show mEv X M_X11_letter 1 _ _ 0 [some (vr ((some o))), some (vi v1)] [] w
  refine ev_iload_n (q := 1) dX11_letter_0 rfl rfl ?_
  refine ev_i2l (q := 2) dX11_letter_1 rfl ?_
  refine ev_lconst (q := 3) (v := (1 : Int64)) dX11_letter_2 rfl (by decide) ?_
  refine ev_ldc2 (q := 6) (v := (126 : Int64)) dX11_letter_3 rfl tw_953 ?_
  replace h := Option.bind_eq_some_iff.mp h; obtain ⟨r1, hr1, h⟩ := h
  refine ev_invS (M1 := M_X11_in) (as := [vl v1.toInt64, vl ((1 : Int64)), vl ((126 : Int64))]) dX11_letter_6 rfl tw_954 cal_X11_in tw_955 (by decide) rfl rfl (Nat.le_of_ble_eq_true rfl) (met_X11_in v1.toInt64 (1 : Int64) (126 : Int64) w _ hr1) ?_
  by_cases hc : r1 = 0
  · rw [if_pos hc] at h
    refine ev_if_ne_f (q := 12) (t0 := 15) dX11_letter_9 (by decide) rfl hc ?_
    refine ev_bipush (q := 14) (v := (-102 : Int32)) dX11_letter_12 rfl (by decide) ?_
    cases h
    exact ev_iret dX11_letter_14 rfl rfl
  · rw [if_neg hc] at h
    refine ev_if_ne_t (q := 15) dX11_letter_9 (by decide) hc ?_
    refine ev_aload_n (q := 16) dX11_letter_15 rfl rfl ?_
    replace h := Option.bind_eq_some_iff.mp h; obtain ⟨r2, hr2, h⟩ := h
    refine ev_gI dX11_letter_16 fl_X11_83 hr2 rfl ?_
    refine ev_bipush (q := 21) (v := (36 : Int32)) dX11_letter_19 rfl (by decide) ?_
    by_cases hc : r2 = (36 : Int32)
    · rw [if_pos hc] at h
      refine ev_icmp_ne_f (q := 24) (t0 := 27) dX11_letter_21 (by decide) rfl hc ?_
      refine ev_bipush (q := 26) (v := (-104 : Int32)) dX11_letter_24 rfl (by decide) ?_
      cases h
      exact ev_iret dX11_letter_26 rfl rfl
    · rw [if_neg hc] at h
      refine ev_icmp_ne_t (q := 27) dX11_letter_21 (by decide) hc ?_
      refine ev_aload_n (q := 28) dX11_letter_27 rfl rfl ?_
      replace h := Option.bind_eq_some_iff.mp h; obtain ⟨r3, hr3, h⟩ := h
      refine ev_gR dX11_letter_28 fl_X11_7 hr3 rfl ?_
      refine ev_aload_n (q := 32) dX11_letter_31 rfl rfl ?_
      replace h := Option.bind_eq_some_iff.mp h; obtain ⟨r4, hr4, h⟩ := h
      refine ev_gI dX11_letter_32 fl_X11_83 hr4 rfl ?_
      refine ev_iload_n (q := 36) dX11_letter_35 rfl rfl ?_
      replace h := Option.bind_eq_some_iff.mp h; obtain ⟨w5, hw5, h⟩ := h
      refine ev_aS dX11_letter_36 hw5 rfl ?_
      refine ev_aload_n (q := 38) dX11_letter_37 rfl rfl ?_
      refine ev_dup (q := 39) dX11_letter_38 rfl rfl ?_
      replace h := Option.bind_eq_some_iff.mp h; obtain ⟨r6, hr6, h⟩ := h
      refine ev_gI dX11_letter_39 fl_X11_83 hr6 rfl ?_
      refine ev_iconst (q := 43) (v := (1 : Int32)) dX11_letter_42 rfl (by decide) ?_
      refine ev_iadd (q := 44) dX11_letter_43 rfl ?_
      replace h := Option.bind_eq_some_iff.mp h; obtain ⟨w7, hw7, h⟩ := h
      refine ev_pI dX11_letter_44 fp_X11_83 hw7 rfl ?_
      refine ev_aload_n (q := 48) dX11_letter_47 rfl rfl ?_
      replace h := Option.bind_eq_some_iff.mp h; obtain ⟨r8, hr8, h⟩ := h
      refine ev_gI dX11_letter_48 fl_X11_83 hr8 rfl ?_
      cases h
      exact ev_iret dX11_letter_51 rfl rfl
def f_X11_morning_L27 (o : Nat) : Nat → Int32 → Int32 → mW → Option (Int32 × mW)
  | 0, _, _, _ => none
  | n + 1, v1, v2, w => Option.bind (gI w (some o) 11 3) fun r1 => if r1 ≤ v2 then (some ((v1, w))) else (Option.bind (gR w (some o) 11 12) fun r2 => Option.bind (aL w r2 v2) fun r3 => Option.bind (gR w (some o) 11 11) fun r4 => Option.bind (aL w r4 v2) fun r5 => Option.bind (aS w r2 v2 (r3 + r5)) fun w6 => Option.bind (gR w6 (some o) 11 13) fun r7 => Option.bind (aL w6 r7 v2) fun r8 => Option.bind (gR w6 (some o) 11 11) fun r9 => Option.bind (aL w6 r9 v2) fun r10 => Option.bind (aS w6 r7 v2 (r8 + ((1 : Int32) - r10))) fun w11 => Option.bind (gR w11 (some o) 11 11) fun r12 => Option.bind (aL w11 r12 v2) fun r13 => Option.bind (gR w11 (some o) 11 11) fun r14 => Option.bind (aS w11 r14 v2 (0 : Int32)) fun w15 => (f_X11_morning_L27 o n) (v1 + r13) (v2 + (1 : Int32)) w15)
set_option maxRecDepth 100000 in
set_option maxHeartbeats 4000000 in
theorem e_X11_morning_L27 {X : mXs} {r : Option mV} {w' : mW} (P : (Int32 × mW) → Prop) (o : Nat) (hexit : ∀ y, P y → mEv X M_X11_morning 1 r w' 89 [some (vr ((some o))), some (vi y.1), none] [] y.2) : ∀ (n : Nat) (v1 : Int32) (v2 : Int32) (w : mW) (e : Int32 × mW), f_X11_morning_L27 o n v1 v2 w = some e → P e → mEv X M_X11_morning 1 r w' 27 [some (vr ((some o))), some (vi v1), some (vi v2)] [] w := by
  intro n
  induction n with
  | zero =>
    intro v1 v2 w e h hP
    rw [f_X11_morning_L27] at h
    cases h
  | succ n hk =>
    intro v1 v2 w e h hP
    rw [f_X11_morning_L27] at h
    refine ev_iload_n (q := 28) dX11_morning_27 rfl rfl ?_
    refine ev_aload_n (q := 29) dX11_morning_28 rfl rfl ?_
    replace h := Option.bind_eq_some_iff.mp h; obtain ⟨r1, hr1, h⟩ := h
    refine ev_gI dX11_morning_29 fl_X11_116 hr1 rfl ?_
    by_cases hc : r1 ≤ v2
    · rw [if_pos hc] at h
      refine ev_icmp_ge_t (q := 89) dX11_morning_32 (by decide) hc ?_
      cases h
      exact ev_weak _ (mLe_some (mLe_some (mLe_none mLe_nil))) (hexit _ hP)
    · rw [if_neg hc] at h
      refine ev_icmp_ge_f (q := 35) (t0 := 89) dX11_morning_32 (by decide) rfl hc ?_
      refine ev_aload_n (q := 36) dX11_morning_35 rfl rfl ?_
      replace h := Option.bind_eq_some_iff.mp h; obtain ⟨r2, hr2, h⟩ := h
      refine ev_gR dX11_morning_36 fl_X11_19 hr2 rfl ?_
      refine ev_iload_n (q := 40) dX11_morning_39 rfl rfl ?_
      refine ev_dup2 (q := 41) dX11_morning_40 rfl rfl rfl ?_
      replace h := Option.bind_eq_some_iff.mp h; obtain ⟨r3, hr3, h⟩ := h
      refine ev_aL dX11_morning_41 hr3 rfl ?_
      refine ev_aload_n (q := 43) dX11_morning_42 rfl rfl ?_
      replace h := Option.bind_eq_some_iff.mp h; obtain ⟨r4, hr4, h⟩ := h
      refine ev_gR dX11_morning_43 fl_X11_16 hr4 rfl ?_
      refine ev_iload_n (q := 47) dX11_morning_46 rfl rfl ?_
      replace h := Option.bind_eq_some_iff.mp h; obtain ⟨r5, hr5, h⟩ := h
      refine ev_aL dX11_morning_47 hr5 rfl ?_
      refine ev_iadd (q := 49) dX11_morning_48 rfl ?_
      replace h := Option.bind_eq_some_iff.mp h; obtain ⟨w6, hw6, h⟩ := h
      refine ev_aS dX11_morning_49 hw6 rfl ?_
      refine ev_aload_n (q := 51) dX11_morning_50 rfl rfl ?_
      replace h := Option.bind_eq_some_iff.mp h; obtain ⟨r7, hr7, h⟩ := h
      refine ev_gR dX11_morning_51 fl_X11_22 hr7 rfl ?_
      refine ev_iload_n (q := 55) dX11_morning_54 rfl rfl ?_
      refine ev_dup2 (q := 56) dX11_morning_55 rfl rfl rfl ?_
      replace h := Option.bind_eq_some_iff.mp h; obtain ⟨r8, hr8, h⟩ := h
      refine ev_aL dX11_morning_56 hr8 rfl ?_
      refine ev_iconst (q := 58) (v := (1 : Int32)) dX11_morning_57 rfl (by decide) ?_
      refine ev_aload_n (q := 59) dX11_morning_58 rfl rfl ?_
      replace h := Option.bind_eq_some_iff.mp h; obtain ⟨r9, hr9, h⟩ := h
      refine ev_gR dX11_morning_59 fl_X11_16 hr9 rfl ?_
      refine ev_iload_n (q := 63) dX11_morning_62 rfl rfl ?_
      replace h := Option.bind_eq_some_iff.mp h; obtain ⟨r10, hr10, h⟩ := h
      refine ev_aL dX11_morning_63 hr10 rfl ?_
      refine ev_isub (q := 65) dX11_morning_64 rfl ?_
      refine ev_iadd (q := 66) dX11_morning_65 rfl ?_
      replace h := Option.bind_eq_some_iff.mp h; obtain ⟨w11, hw11, h⟩ := h
      refine ev_aS dX11_morning_66 hw11 rfl ?_
      refine ev_iload_n (q := 68) dX11_morning_67 rfl rfl ?_
      refine ev_aload_n (q := 69) dX11_morning_68 rfl rfl ?_
      replace h := Option.bind_eq_some_iff.mp h; obtain ⟨r12, hr12, h⟩ := h
      refine ev_gR dX11_morning_69 fl_X11_16 hr12 rfl ?_
      refine ev_iload_n (q := 73) dX11_morning_72 rfl rfl ?_
      replace h := Option.bind_eq_some_iff.mp h; obtain ⟨r13, hr13, h⟩ := h
      refine ev_aL dX11_morning_73 hr13 rfl ?_
      refine ev_iadd (q := 75) dX11_morning_74 rfl ?_
      refine ev_istore_n (q := 76) dX11_morning_75 rfl (by decide) ?_
      refine ev_aload_n (q := 77) dX11_morning_76 rfl rfl ?_
      replace h := Option.bind_eq_some_iff.mp h; obtain ⟨r14, hr14, h⟩ := h
      refine ev_gR dX11_morning_77 fl_X11_16 hr14 rfl ?_
      refine ev_iload_n (q := 81) dX11_morning_80 rfl rfl ?_
      refine ev_iconst (q := 82) (v := (0 : Int32)) dX11_morning_81 rfl (by decide) ?_
      replace h := Option.bind_eq_some_iff.mp h; obtain ⟨w15, hw15, h⟩ := h
      refine ev_aS dX11_morning_82 hw15 rfl ?_
      refine ev_iinc (q := 86) (v := v2 + (1 : Int32)) dX11_morning_83 rfl (by decide) rfl (by rfl) ?_
      refine ev_goto (q := 27) dX11_morning_86 (by decide) ?_
      exact ev_weak _ (mLe_some (mLe_some (mLe_some mLe_nil))) (hk (v1 + r13) (v2 + (1 : Int32)) w15 _ h hP)
def f_X11_morning (o : Nat) (w : mW) : Option (Int32 × mW) := Option.bind (kO w (some o) 11) fun _ => Option.bind (f_X11_lacks o  w) fun r16 => if r16 = 0 then (Option.bind (gI w (some o) 11 7) fun r18 => if r18 = (999 : Int32) then (some (((-104 : Int32), w))) else (Option.bind (f_X11_morning_L27 o mFuel (0 : Int32) (0 : Int32) w) fun e19 => Option.bind (gI e19.2 (some o) 11 7) fun r20 => Option.bind (pI e19.2 (some o) 11 7 (r20 + (1 : Int32))) fun w21 => some ((e19.1, w21)))) else (some (((-103 : Int32), w)))
set_option maxRecDepth 100000 in
set_option maxHeartbeats 4000000 in
theorem met_X11_morning (o : Nat) (w : mW) (res : Int32 × mW) (h : f_X11_morning o w = some res) : mMet M_X11_morning 1 [vr ((some o))] w (some (vi res.1)) res.2 := by
  refine ev_met (n := 2) (by decide) rfl fun X => ?_
  unfold f_X11_morning at h
  show mEv X M_X11_morning 1 _ _ 0 [some (vr ((some o))), none, none] [] w
  refine ev_aload_n (q := 1) dX11_morning_0 rfl rfl ?_
  replace h := Option.bind_eq_some_iff.mp h; obtain ⟨q17, hq17, h⟩ := h
  obtain ⟨hxq17, fsq17, hkq17⟩ := kO_spec hq17
  cases hxq17
  replace h := Option.bind_eq_some_iff.mp h; obtain ⟨r16, hr16, h⟩ := h
  refine ev_invV (M1 := M_X11_lacks) (as := []) (fs := fsq17) (ci := 11) dX11_morning_1 rfl tw_1104 cal_X11_lacks tw_1106 tw_48 (by decide) rfl rfl (Nat.le_of_ble_eq_true rfl) hkq17 rfl (met_X11_lacks o  w _ hr16) ?_
  by_cases hc : r16 = 0
  · rw [if_pos hc] at h
    refine ev_if_eq_t (q := 10) dX11_morning_4 (by decide) hc ?_
    refine ev_aload_n (q := 11) dX11_morning_10 rfl rfl ?_
    replace h := Option.bind_eq_some_iff.mp h; obtain ⟨r18, hr18, h⟩ := h
    refine ev_gI dX11_morning_11 fl_X11_128 hr18 rfl ?_
    refine ev_sipush (q := 17) (v := (999 : Int32)) dX11_morning_14 rfl (by decide) ?_
    by_cases hc : r18 = (999 : Int32)
    · rw [if_pos hc] at h
      refine ev_icmp_ne_f (q := 20) (t0 := 23) dX11_morning_17 (by decide) rfl hc ?_
      refine ev_bipush (q := 22) (v := (-104 : Int32)) dX11_morning_20 rfl (by decide) ?_
      cases h
      exact ev_iret dX11_morning_22 rfl rfl
    · rw [if_neg hc] at h
      refine ev_icmp_ne_t (q := 23) dX11_morning_17 (by decide) hc ?_
      refine ev_iconst (q := 24) (v := (0 : Int32)) dX11_morning_23 rfl (by decide) ?_
      refine ev_istore_n (q := 25) dX11_morning_24 rfl (by decide) ?_
      refine ev_iconst (q := 26) (v := (0 : Int32)) dX11_morning_25 rfl (by decide) ?_
      refine ev_istore_n (q := 27) dX11_morning_26 rfl (by decide) ?_
      replace h := Option.bind_eq_some_iff.mp h; obtain ⟨e19, he19, h⟩ := h
      refine ev_weak _ (mLe_some (mLe_some (mLe_some mLe_nil))) (e_X11_morning_L27 (fun z => e19 = z) o (fun e19q hq => ?_) mFuel (0 : Int32) (0 : Int32) w _ he19 rfl)
      subst hq
      refine ev_aload_n (q := 90) dX11_morning_89 rfl rfl ?_
      refine ev_dup (q := 91) dX11_morning_90 rfl rfl ?_
      replace h := Option.bind_eq_some_iff.mp h; obtain ⟨r20, hr20, h⟩ := h
      refine ev_gI dX11_morning_91 fl_X11_128 hr20 rfl ?_
      refine ev_iconst (q := 95) (v := (1 : Int32)) dX11_morning_94 rfl (by decide) ?_
      refine ev_iadd (q := 96) dX11_morning_95 rfl ?_
      replace h := Option.bind_eq_some_iff.mp h; obtain ⟨w21, hw21, h⟩ := h
      refine ev_pI dX11_morning_96 fp_X11_128 hw21 rfl ?_
      refine ev_iload_n (q := 100) dX11_morning_99 rfl rfl ?_
      cases h
      exact ev_iret dX11_morning_100 rfl rfl
  · rw [if_neg hc] at h
    refine ev_if_eq_f (q := 7) (t0 := 10) dX11_morning_4 (by decide) rfl hc ?_
    refine ev_bipush (q := 9) (v := (-103 : Int32)) dX11_morning_7 rfl (by decide) ?_
    cases h
    exact ev_iret dX11_morning_9 rfl rfl
def f_X11_priceOf (o : Nat) (v1 : Int32) (w : mW) : Option (Int32) := Option.bind (gR w (some o) 11 14) fun r1 => Option.bind (aL w r1 (v1 / (36 : Int32))) fun r2 => Option.bind (f_X11_batterOf r2 w) fun r3 => some (((100 : Int32) * r3) + (1 : Int32))
set_option maxRecDepth 100000 in
set_option maxHeartbeats 4000000 in
theorem met_X11_priceOf (o : Nat) (v1 : Int32) (w : mW) (res : Int32) (h : f_X11_priceOf o v1 w = some res) : mMet M_X11_priceOf 1 [vr ((some o)), vi v1] w (some (vi res)) w := by
  refine ev_met (n := 0) (by decide) rfl fun X => ?_
  unfold f_X11_priceOf at h
  show mEv X M_X11_priceOf 1 _ _ 0 [some (vr ((some o))), some (vi v1)] [] w
  refine ev_bipush (q := 2) (v := (100 : Int32)) dX11_priceOf_0 rfl (by decide) ?_
  refine ev_aload_n (q := 3) dX11_priceOf_2 rfl rfl ?_
  replace h := Option.bind_eq_some_iff.mp h; obtain ⟨r1, hr1, h⟩ := h
  refine ev_gR dX11_priceOf_3 fl_X11_25 hr1 rfl ?_
  refine ev_iload_n (q := 7) dX11_priceOf_6 rfl rfl ?_
  refine ev_bipush (q := 9) (v := (36 : Int32)) dX11_priceOf_7 rfl (by decide) ?_
  refine ev_idiv (q := 10) dX11_priceOf_9 rfl (by decide) ?_
  replace h := Option.bind_eq_some_iff.mp h; obtain ⟨r2, hr2, h⟩ := h
  refine ev_aL dX11_priceOf_10 hr2 rfl ?_
  replace h := Option.bind_eq_some_iff.mp h; obtain ⟨r3, hr3, h⟩ := h
  refine ev_invS (M1 := M_X11_batterOf) (as := [vi r2]) dX11_priceOf_11 rfl tw_1065 cal_X11_batterOf tw_1066 (by decide) rfl rfl (Nat.le_of_ble_eq_true rfl) (met_X11_batterOf r2 w _ hr3) ?_
  refine ev_imul (q := 15) dX11_priceOf_14 rfl ?_
  refine ev_iconst (q := 16) (v := (1 : Int32)) dX11_priceOf_15 rfl (by decide) ?_
  refine ev_iadd (q := 17) dX11_priceOf_16 rfl ?_
  cases h
  exact ev_iret dX11_priceOf_17 rfl rfl
def f_X11_reaches_J142 (s0 : Int32) (w : mW) : Option (Int32) := if s0 = 0 ∨ s0 = 1 then some (s0) else none
set_option maxRecDepth 100000 in
set_option maxHeartbeats 4000000 in
theorem e_X11_reaches_J142 {X : mXs} (s0 : Int32) (w : mW) (res : Int32) (h : f_X11_reaches_J142 s0 w = some res) : mEv X M_X11_reaches 1 (some (vi res)) w 142 [none, none, none, none, none, none] [vi s0] w := by
  unfold f_X11_reaches_J142 at h
  by_cases hz : s0 = 0 ∨ s0 = 1
  · rw [if_pos hz] at h
    cases h
    exact ev_zret dX11_reaches_142 rfl hz
  · rw [if_neg hz] at h
    cases h
def f_X11_reaches_J128 (s0 : Int32) (w : mW) : Option (Int32) := if s0 = 0 ∨ s0 = 1 then some (s0) else none
set_option maxRecDepth 100000 in
set_option maxHeartbeats 4000000 in
theorem e_X11_reaches_J128 {X : mXs} (s0 : Int32) (w : mW) (res : Int32) (h : f_X11_reaches_J128 s0 w = some res) : mEv X M_X11_reaches 1 (some (vi res)) w 128 [none, none, none, none, none, none] [vi s0] w := by
  unfold f_X11_reaches_J128 at h
  by_cases hz : s0 = 0 ∨ s0 = 1
  · rw [if_pos hz] at h
    cases h
    exact ev_zret dX11_reaches_128 rfl hz
  · rw [if_neg hz] at h
    cases h
def f_X11_reaches_J127 (w : mW) : Option (Int32) := f_X11_reaches_J128 (0 : Int32) w
set_option maxRecDepth 100000 in
set_option maxHeartbeats 4000000 in
theorem e_X11_reaches_J127 {X : mXs} (w : mW) (res : Int32) (h : f_X11_reaches_J127 w = some res) : mEv X M_X11_reaches 1 (some (vi res)) w 127 [none, none, none, none, none, none] [] w := by
  unfold f_X11_reaches_J127 at h
  refine ev_iconst (q := 128) (v := (0 : Int32)) dX11_reaches_127 rfl (by decide) ?_
  exact ev_weak _ (mLe_none (mLe_none (mLe_none (mLe_none (mLe_none (mLe_none mLe_nil)))))) (e_X11_reaches_J128 (0 : Int32) w _ h)
def f_X11_reaches_J110 (s0 : Int32) (w : mW) : Option (Int32) := if s0 = 0 ∨ s0 = 1 then some (s0) else none
set_option maxRecDepth 100000 in
set_option maxHeartbeats 4000000 in
theorem e_X11_reaches_J110 {X : mXs} (s0 : Int32) (w : mW) (res : Int32) (h : f_X11_reaches_J110 s0 w = some res) : mEv X M_X11_reaches 1 (some (vi res)) w 110 [none, none, none, none, none, none] [vi s0] w := by
  unfold f_X11_reaches_J110 at h
  by_cases hz : s0 = 0 ∨ s0 = 1
  · rw [if_pos hz] at h
    cases h
    exact ev_zret dX11_reaches_110 rfl hz
  · rw [if_neg hz] at h
    cases h
def f_X11_reaches_J109 (w : mW) : Option (Int32) := f_X11_reaches_J110 (0 : Int32) w
set_option maxRecDepth 100000 in
set_option maxHeartbeats 4000000 in
theorem e_X11_reaches_J109 {X : mXs} (w : mW) (res : Int32) (h : f_X11_reaches_J109 w = some res) : mEv X M_X11_reaches 1 (some (vi res)) w 109 [none, none, none, none, none, none] [] w := by
  unfold f_X11_reaches_J109 at h
  refine ev_iconst (q := 110) (v := (0 : Int32)) dX11_reaches_109 rfl (by decide) ?_
  exact ev_weak _ (mLe_none (mLe_none (mLe_none (mLe_none (mLe_none (mLe_none mLe_nil)))))) (e_X11_reaches_J110 (0 : Int32) w _ h)
def f_X11_reaches_J92 (s0 : Int32) (w : mW) : Option (Int32) := if s0 = 0 ∨ s0 = 1 then some (s0) else none
set_option maxRecDepth 100000 in
set_option maxHeartbeats 4000000 in
theorem e_X11_reaches_J92 {X : mXs} (s0 : Int32) (w : mW) (res : Int32) (h : f_X11_reaches_J92 s0 w = some res) : mEv X M_X11_reaches 1 (some (vi res)) w 92 [none, none, none, none, none, none] [vi s0] w := by
  unfold f_X11_reaches_J92 at h
  by_cases hz : s0 = 0 ∨ s0 = 1
  · rw [if_pos hz] at h
    cases h
    exact ev_zret dX11_reaches_92 rfl hz
  · rw [if_neg hz] at h
    cases h
def f_X11_reaches_J91 (w : mW) : Option (Int32) := f_X11_reaches_J92 (0 : Int32) w
set_option maxRecDepth 100000 in
set_option maxHeartbeats 4000000 in
theorem e_X11_reaches_J91 {X : mXs} (w : mW) (res : Int32) (h : f_X11_reaches_J91 w = some res) : mEv X M_X11_reaches 1 (some (vi res)) w 91 [none, none, none, none, none, none] [] w := by
  unfold f_X11_reaches_J91 at h
  refine ev_iconst (q := 92) (v := (0 : Int32)) dX11_reaches_91 rfl (by decide) ?_
  exact ev_weak _ (mLe_none (mLe_none (mLe_none (mLe_none (mLe_none (mLe_none mLe_nil)))))) (e_X11_reaches_J92 (0 : Int32) w _ h)
def f_X11_reaches_J41 (v0 : Int32) (v3 : Int32) (v4 : Int32) (s0 : Int32) (w : mW) : Option (Int32) := if v0 = 1 then (if s0 = 0 then (f_X11_reaches_J91 w) else (if v3 = v4 then (f_X11_reaches_J92 (1 : Int32) w) else (f_X11_reaches_J91 w))) else (if v0 = 2 then (if s0 = 0 ∨ s0 = 1 then some (s0) else none) else (if v0 = 3 then (if s0 = 0 then (f_X11_reaches_J109 w) else (if v3 = 0 then (f_X11_reaches_J110 (1 : Int32) w) else (f_X11_reaches_J109 w))) else (if v0 = 4 then (if s0 = 0 then (f_X11_reaches_J127 w) else (if v3 + v4 ≤ 0 then (f_X11_reaches_J127 w) else (f_X11_reaches_J128 (1 : Int32) w))) else (if (2 : Int32) ≤ v3 + v4 then (f_X11_reaches_J142 (0 : Int32) w) else (f_X11_reaches_J142 (1 : Int32) w)))))
set_option maxRecDepth 100000 in
set_option maxHeartbeats 4000000 in
theorem e_X11_reaches_J41 {X : mXs} (v0 : Int32) (v3 : Int32) (v4 : Int32) (s0 : Int32) (w : mW) (res : Int32) (h : f_X11_reaches_J41 v0 v3 v4 s0 w = some res) : mEv X M_X11_reaches 1 (some (vi res)) w 41 [some (vi v0), none, none, some (vi v3), some (vi v4), none] [vi s0] w := by
  unfold f_X11_reaches_J41 at h
  refine ev_istore (q := 43) dX11_reaches_41 rfl (by decide) ?_
  refine ev_iload_n (q := 44) dX11_reaches_43 rfl rfl ?_
  by_cases hc1 : v0 = 1
  · rw [if_pos hc1] at h
    refine ev_table_in (q := 76) (off := 32) dX11_reaches_44 (by rw [hc1]; decide) (by rw [hc1]; decide) (by rw [hc1]; rfl) (by decide) ?_
    refine ev_iload (q := 78) dX11_reaches_76 rfl rfl ?_
    by_cases hc : s0 = 0
    · rw [if_pos hc] at h
      refine ev_if_eq_t (q := 91) dX11_reaches_78 (by decide) hc ?_
      exact ev_weak _ (mLe_none (mLe_none (mLe_none (mLe_none (mLe_none (mLe_none mLe_nil)))))) (e_X11_reaches_J91 w _ h)
    · rw [if_neg hc] at h
      refine ev_if_eq_f (q := 81) (t0 := 91) dX11_reaches_78 (by decide) rfl hc ?_
      refine ev_iload_n (q := 82) dX11_reaches_81 rfl rfl ?_
      refine ev_iload (q := 84) dX11_reaches_82 rfl rfl ?_
      by_cases hc : v3 = v4
      · rw [if_pos hc] at h
        refine ev_icmp_ne_f (q := 87) (t0 := 91) dX11_reaches_84 (by decide) rfl hc ?_
        refine ev_iconst (q := 88) (v := (1 : Int32)) dX11_reaches_87 rfl (by decide) ?_
        refine ev_goto (q := 92) dX11_reaches_88 (by decide) ?_
        exact ev_weak _ (mLe_none (mLe_none (mLe_none (mLe_none (mLe_none (mLe_none mLe_nil)))))) (e_X11_reaches_J92 (1 : Int32) w _ h)
      · rw [if_neg hc] at h
        refine ev_icmp_ne_t (q := 91) dX11_reaches_84 (by decide) hc ?_
        exact ev_weak _ (mLe_none (mLe_none (mLe_none (mLe_none (mLe_none (mLe_none mLe_nil)))))) (e_X11_reaches_J91 w _ h)
  · rw [if_neg hc1] at h
    by_cases hc2 : v0 = 2
    · rw [if_pos hc2] at h
      refine ev_table_in (q := 93) (off := 49) dX11_reaches_44 (by rw [hc2]; decide) (by rw [hc2]; decide) (by rw [hc2]; rfl) (by decide) ?_
      refine ev_iload (q := 95) dX11_reaches_93 rfl rfl ?_
      by_cases hz : s0 = 0 ∨ s0 = 1
      · rw [if_pos hz] at h
        cases h
        exact ev_zret dX11_reaches_95 rfl hz
      · rw [if_neg hz] at h
        cases h
    · rw [if_neg hc2] at h
      by_cases hc3 : v0 = 3
      · rw [if_pos hc3] at h
        refine ev_table_in (q := 96) (off := 52) dX11_reaches_44 (by rw [hc3]; decide) (by rw [hc3]; decide) (by rw [hc3]; rfl) (by decide) ?_
        refine ev_iload (q := 98) dX11_reaches_96 rfl rfl ?_
        by_cases hc : s0 = 0
        · rw [if_pos hc] at h
          refine ev_if_eq_t (q := 109) dX11_reaches_98 (by decide) hc ?_
          exact ev_weak _ (mLe_none (mLe_none (mLe_none (mLe_none (mLe_none (mLe_none mLe_nil)))))) (e_X11_reaches_J109 w _ h)
        · rw [if_neg hc] at h
          refine ev_if_eq_f (q := 101) (t0 := 109) dX11_reaches_98 (by decide) rfl hc ?_
          refine ev_iload_n (q := 102) dX11_reaches_101 rfl rfl ?_
          by_cases hc : v3 = 0
          · rw [if_pos hc] at h
            refine ev_if_ne_f (q := 105) (t0 := 109) dX11_reaches_102 (by decide) rfl hc ?_
            refine ev_iconst (q := 106) (v := (1 : Int32)) dX11_reaches_105 rfl (by decide) ?_
            refine ev_goto (q := 110) dX11_reaches_106 (by decide) ?_
            exact ev_weak _ (mLe_none (mLe_none (mLe_none (mLe_none (mLe_none (mLe_none mLe_nil)))))) (e_X11_reaches_J110 (1 : Int32) w _ h)
          · rw [if_neg hc] at h
            refine ev_if_ne_t (q := 109) dX11_reaches_102 (by decide) hc ?_
            exact ev_weak _ (mLe_none (mLe_none (mLe_none (mLe_none (mLe_none (mLe_none mLe_nil)))))) (e_X11_reaches_J109 w _ h)
      · rw [if_neg hc3] at h
        by_cases hc4 : v0 = 4
        · rw [if_pos hc4] at h
          refine ev_table_in (q := 111) (off := 67) dX11_reaches_44 (by rw [hc4]; decide) (by rw [hc4]; decide) (by rw [hc4]; rfl) (by decide) ?_
          refine ev_iload (q := 113) dX11_reaches_111 rfl rfl ?_
          by_cases hc : s0 = 0
          · rw [if_pos hc] at h
            refine ev_if_eq_t (q := 127) dX11_reaches_113 (by decide) hc ?_
            exact ev_weak _ (mLe_none (mLe_none (mLe_none (mLe_none (mLe_none (mLe_none mLe_nil)))))) (e_X11_reaches_J127 w _ h)
          · rw [if_neg hc] at h
            refine ev_if_eq_f (q := 116) (t0 := 127) dX11_reaches_113 (by decide) rfl hc ?_
            refine ev_iload_n (q := 117) dX11_reaches_116 rfl rfl ?_
            refine ev_iload (q := 119) dX11_reaches_117 rfl rfl ?_
            refine ev_iadd (q := 120) dX11_reaches_119 rfl ?_
            by_cases hc : v3 + v4 ≤ 0
            · rw [if_pos hc] at h
              refine ev_if_le_t (q := 127) dX11_reaches_120 (by decide) hc ?_
              exact ev_weak _ (mLe_none (mLe_none (mLe_none (mLe_none (mLe_none (mLe_none mLe_nil)))))) (e_X11_reaches_J127 w _ h)
            · rw [if_neg hc] at h
              refine ev_if_le_f (q := 123) (t0 := 127) dX11_reaches_120 (by decide) rfl hc ?_
              refine ev_iconst (q := 124) (v := (1 : Int32)) dX11_reaches_123 rfl (by decide) ?_
              refine ev_goto (q := 128) dX11_reaches_124 (by decide) ?_
              exact ev_weak _ (mLe_none (mLe_none (mLe_none (mLe_none (mLe_none (mLe_none mLe_nil)))))) (e_X11_reaches_J128 (1 : Int32) w _ h)
        · rw [if_neg hc4] at h
          refine ev_table_out (q := 129) dX11_reaches_44 (by have z1 := mNe (z := 1) (by decide) hc1; have z2 := mNe (z := 2) (by decide) hc2; have z3 := mNe (z := 3) (by decide) hc3; have z4 := mNe (z := 4) (by decide) hc4; omega) (by decide) ?_
          refine ev_iload_n (q := 130) dX11_reaches_129 rfl rfl ?_
          refine ev_iload (q := 132) dX11_reaches_130 rfl rfl ?_
          refine ev_iadd (q := 133) dX11_reaches_132 rfl ?_
          refine ev_iconst (q := 134) (v := (2 : Int32)) dX11_reaches_133 rfl (by decide) ?_
          by_cases hc : (2 : Int32) ≤ v3 + v4
          · rw [if_pos hc] at h
            refine ev_icmp_ge_t (q := 141) dX11_reaches_134 (by decide) hc ?_
            refine ev_iconst (q := 142) (v := (0 : Int32)) dX11_reaches_141 rfl (by decide) ?_
            exact ev_weak _ (mLe_none (mLe_none (mLe_none (mLe_none (mLe_none (mLe_none mLe_nil)))))) (e_X11_reaches_J142 (0 : Int32) w _ h)
          · rw [if_neg hc] at h
            refine ev_icmp_ge_f (q := 137) (t0 := 141) dX11_reaches_134 (by decide) rfl hc ?_
            refine ev_iconst (q := 138) (v := (1 : Int32)) dX11_reaches_137 rfl (by decide) ?_
            refine ev_goto (q := 142) dX11_reaches_138 (by decide) ?_
            exact ev_weak _ (mLe_none (mLe_none (mLe_none (mLe_none (mLe_none (mLe_none mLe_nil)))))) (e_X11_reaches_J142 (1 : Int32) w _ h)
def f_X11_reaches_J40 (v0 : Int32) (v3 : Int32) (v4 : Int32) (w : mW) : Option (Int32) := f_X11_reaches_J41 v0 v3 v4 (0 : Int32) w
set_option maxRecDepth 100000 in
set_option maxHeartbeats 4000000 in
theorem e_X11_reaches_J40 {X : mXs} (v0 : Int32) (v3 : Int32) (v4 : Int32) (w : mW) (res : Int32) (h : f_X11_reaches_J40 v0 v3 v4 w = some res) : mEv X M_X11_reaches 1 (some (vi res)) w 40 [some (vi v0), none, none, some (vi v3), some (vi v4), none] [] w := by
  unfold f_X11_reaches_J40 at h
  refine ev_iconst (q := 41) (v := (0 : Int32)) dX11_reaches_40 rfl (by decide) ?_
  exact ev_weak _ (mLe_some (mLe_none (mLe_none (mLe_some (mLe_some (mLe_none mLe_nil)))))) (e_X11_reaches_J41 v0 v3 v4 (0 : Int32) w _ h)
def f_X11_reaches (v0 : Int32) (v1 : Int32) (v2 : Int32) (w : mW) : Option (Int32) := Option.bind (f_X11_far (v1 / (6 : Int32)) (v2 / (6 : Int32)) w) fun r1 => Option.bind (f_X11_far (v1 - v1 / (6 : Int32) * (6 : Int32)) (v2 - v2 / (6 : Int32) * (6 : Int32)) w) fun r2 => if (2 : Int32) ≤ r1 then (f_X11_reaches_J40 v0 r1 r2 w) else (if (2 : Int32) ≤ r2 then (f_X11_reaches_J40 v0 r1 r2 w) else (f_X11_reaches_J41 v0 r1 r2 (1 : Int32) w))
set_option maxRecDepth 100000 in
set_option maxHeartbeats 4000000 in
theorem met_X11_reaches (v0 : Int32) (v1 : Int32) (v2 : Int32) (w : mW) (res : Int32) (h : f_X11_reaches v0 v1 v2 w = some res) : mMet M_X11_reaches 1 [vi v0, vi v1, vi v2] w (some (vi res)) w := by
  refine ev_met (n := 3) (by decide) rfl fun X => ?_
  unfold f_X11_reaches at h
  show mEv X M_X11_reaches 1 _ _ 0 [some (vi v0), some (vi v1), some (vi v2), none, none, none] [] w
  refine ev_iload_n (q := 1) dX11_reaches_0 rfl rfl ?_
  refine ev_bipush (q := 3) (v := (6 : Int32)) dX11_reaches_1 rfl (by decide) ?_
  refine ev_idiv (q := 4) dX11_reaches_3 rfl (by decide) ?_
  refine ev_iload_n (q := 5) dX11_reaches_4 rfl rfl ?_
  refine ev_bipush (q := 7) (v := (6 : Int32)) dX11_reaches_5 rfl (by decide) ?_
  refine ev_idiv (q := 8) dX11_reaches_7 rfl (by decide) ?_
  replace h := Option.bind_eq_some_iff.mp h; obtain ⟨r1, hr1, h⟩ := h
  refine ev_invS (M1 := M_X11_far) (as := [vi (v1 / (6 : Int32)), vi (v2 / (6 : Int32))]) dX11_reaches_8 rfl tw_1030 cal_X11_far tw_1031 (by decide) rfl rfl (Nat.le_of_ble_eq_true rfl) (met_X11_far (v1 / (6 : Int32)) (v2 / (6 : Int32)) w _ hr1) ?_
  refine ev_istore_n (q := 12) dX11_reaches_11 rfl (by decide) ?_
  refine ev_iload_n (q := 13) dX11_reaches_12 rfl rfl ?_
  refine ev_bipush (q := 15) (v := (6 : Int32)) dX11_reaches_13 rfl (by decide) ?_
  refine ev_irem (q := 16) dX11_reaches_15 rfl (by decide) ?_
  refine ev_iload_n (q := 17) dX11_reaches_16 rfl rfl ?_
  refine ev_bipush (q := 19) (v := (6 : Int32)) dX11_reaches_17 rfl (by decide) ?_
  refine ev_irem (q := 20) dX11_reaches_19 rfl (by decide) ?_
  replace h := Option.bind_eq_some_iff.mp h; obtain ⟨r2, hr2, h⟩ := h
  refine ev_invS (M1 := M_X11_far) (as := [vi (v1 - v1 / (6 : Int32) * (6 : Int32)), vi (v2 - v2 / (6 : Int32) * (6 : Int32))]) dX11_reaches_20 rfl tw_1030 cal_X11_far tw_1031 (by decide) rfl rfl (Nat.le_of_ble_eq_true rfl) (met_X11_far (v1 - v1 / (6 : Int32) * (6 : Int32)) (v2 - v2 / (6 : Int32) * (6 : Int32)) w _ hr2) ?_
  refine ev_istore (q := 25) dX11_reaches_23 rfl (by decide) ?_
  refine ev_iload_n (q := 26) dX11_reaches_25 rfl rfl ?_
  refine ev_iconst (q := 27) (v := (2 : Int32)) dX11_reaches_26 rfl (by decide) ?_
  by_cases hc : (2 : Int32) ≤ r1
  · rw [if_pos hc] at h
    refine ev_icmp_ge_t (q := 40) dX11_reaches_27 (by decide) hc ?_
    exact ev_weak _ (mLe_some (mLe_none (mLe_none (mLe_some (mLe_some (mLe_none mLe_nil)))))) (e_X11_reaches_J40 v0 r1 r2 w _ h)
  · rw [if_neg hc] at h
    refine ev_icmp_ge_f (q := 30) (t0 := 40) dX11_reaches_27 (by decide) rfl hc ?_
    refine ev_iload (q := 32) dX11_reaches_30 rfl rfl ?_
    refine ev_iconst (q := 33) (v := (2 : Int32)) dX11_reaches_32 rfl (by decide) ?_
    by_cases hc : (2 : Int32) ≤ r2
    · rw [if_pos hc] at h
      refine ev_icmp_ge_t (q := 40) dX11_reaches_33 (by decide) hc ?_
      exact ev_weak _ (mLe_some (mLe_none (mLe_none (mLe_some (mLe_some (mLe_none mLe_nil)))))) (e_X11_reaches_J40 v0 r1 r2 w _ h)
    · rw [if_neg hc] at h
      refine ev_icmp_ge_f (q := 36) (t0 := 40) dX11_reaches_33 (by decide) rfl hc ?_
      refine ev_iconst (q := 37) (v := (1 : Int32)) dX11_reaches_36 rfl (by decide) ?_
      refine ev_goto (q := 41) dX11_reaches_37 (by decide) ?_
      exact ev_weak _ (mLe_some (mLe_none (mLe_none (mLe_some (mLe_some (mLe_none mLe_nil)))))) (e_X11_reaches_J41 v0 r1 r2 (1 : Int32) w _ h)
def f_X11_restore (o : Nat) (w : mW) : Option (Int32 × mW) := Option.bind (gI w (some o) 11 25) fun r1 => Option.bind (gI w (some o) 11 9) fun r2 => if r1 = r2 then (Option.bind (gR w (some o) 11 31) fun r3 => Option.bind (gR w (some o) 11 10) fun r4 => Option.bind (f_X11_copy r3 r4 w) fun w5 => Option.bind (gR w5 (some o) 11 32) fun r6 => Option.bind (gR w5 (some o) 11 11) fun r7 => Option.bind (f_X11_copy r6 r7 w5) fun w8 => Option.bind (gR w8 (some o) 11 33) fun r9 => Option.bind (gR w8 (some o) 11 12) fun r10 => Option.bind (f_X11_copy r9 r10 w8) fun w11 => Option.bind (gR w11 (some o) 11 34) fun r12 => Option.bind (gR w11 (some o) 11 13) fun r13 => Option.bind (f_X11_copy r12 r13 w11) fun w14 => Option.bind (gR w14 (some o) 11 35) fun r15 => Option.bind (gR w14 (some o) 11 15) fun r16 => Option.bind (f_X11_copy r15 r16 w14) fun w17 => Option.bind (gR w17 (some o) 11 36) fun r18 => Option.bind (gR w17 (some o) 11 16) fun r19 => Option.bind (f_X11_copy r18 r19 w17) fun w20 => Option.bind (gR w20 (some o) 11 37) fun r21 => Option.bind (gR w20 (some o) 11 17) fun r22 => Option.bind (f_X11_copy r21 r22 w20) fun w23 => Option.bind (gR w23 (some o) 11 38) fun r24 => Option.bind (gR w23 (some o) 11 23) fun r25 => Option.bind (f_X11_copy r24 r25 w23) fun w26 => Option.bind (gI w26 (some o) 11 26) fun r27 => Option.bind (pI w26 (some o) 11 5 r27) fun w28 => Option.bind (gI w28 (some o) 11 27) fun r29 => Option.bind (pI w28 (some o) 11 6 r29) fun w30 => Option.bind (gI w30 (some o) 11 28) fun r31 => Option.bind (pI w30 (some o) 11 7 r31) fun w32 => Option.bind (gI w32 (some o) 11 29) fun r33 => Option.bind (pI w32 (some o) 11 8 r33) fun w34 => Option.bind (gI w34 (some o) 11 30) fun r35 => Option.bind (pI w34 (some o) 11 22 r35) fun w36 => Option.bind (gI w36 (some o) 11 7) fun r37 => some ((r37, w36))) else (some (((-103 : Int32), w)))
set_option maxRecDepth 100000 in
set_option maxHeartbeats 4000000 in
theorem met_X11_restore (o : Nat) (w : mW) (res : Int32 × mW) (h : f_X11_restore o w = some res) : mMet M_X11_restore 1 [vr ((some o))] w (some (vi res.1)) res.2 := by
  refine ev_met (n := 0) (by decide) rfl fun X => ?_
  unfold f_X11_restore at h
  show mEv X M_X11_restore 1 _ _ 0 [some (vr ((some o)))] [] w
  refine ev_aload_n (q := 1) dX11_restore_0 rfl rfl ?_
  replace h := Option.bind_eq_some_iff.mp h; obtain ⟨r1, hr1, h⟩ := h
  refine ev_gI dX11_restore_1 fl_X11_73 hr1 rfl ?_
  refine ev_aload_n (q := 5) dX11_restore_4 rfl rfl ?_
  replace h := Option.bind_eq_some_iff.mp h; obtain ⟨r2, hr2, h⟩ := h
  refine ev_gI dX11_restore_5 fl_X11_137 hr2 rfl ?_
  by_cases hc : r1 = r2
  · rw [if_pos hc] at h
    refine ev_icmp_eq_t (q := 14) dX11_restore_8 (by decide) hc ?_
    refine ev_aload_n (q := 15) dX11_restore_14 rfl rfl ?_
    replace h := Option.bind_eq_some_iff.mp h; obtain ⟨r3, hr3, h⟩ := h
    refine ev_gR dX11_restore_15 fl_X11_49 hr3 rfl ?_
    refine ev_aload_n (q := 19) dX11_restore_18 rfl rfl ?_
    replace h := Option.bind_eq_some_iff.mp h; obtain ⟨r4, hr4, h⟩ := h
    refine ev_gR dX11_restore_19 fl_X11_13 hr4 rfl ?_
    replace h := Option.bind_eq_some_iff.mp h; obtain ⟨w5, hw5, h⟩ := h
    refine ev_invS (M1 := M_X11_copy) (as := [vr r3, vr r4]) dX11_restore_22 rfl tw_1193 cal_X11_copy tw_1194 (by decide) rfl rfl (Nat.le_of_ble_eq_true rfl) (met_X11_copy r3 r4 w _ hw5) ?_
    refine ev_aload_n (q := 26) dX11_restore_25 rfl rfl ?_
    replace h := Option.bind_eq_some_iff.mp h; obtain ⟨r6, hr6, h⟩ := h
    refine ev_gR dX11_restore_26 fl_X11_52 hr6 rfl ?_
    refine ev_aload_n (q := 30) dX11_restore_29 rfl rfl ?_
    replace h := Option.bind_eq_some_iff.mp h; obtain ⟨r7, hr7, h⟩ := h
    refine ev_gR dX11_restore_30 fl_X11_16 hr7 rfl ?_
    replace h := Option.bind_eq_some_iff.mp h; obtain ⟨w8, hw8, h⟩ := h
    refine ev_invS (M1 := M_X11_copy) (as := [vr r6, vr r7]) dX11_restore_33 rfl tw_1193 cal_X11_copy tw_1194 (by decide) rfl rfl (Nat.le_of_ble_eq_true rfl) (met_X11_copy r6 r7 w5 _ hw8) ?_
    refine ev_aload_n (q := 37) dX11_restore_36 rfl rfl ?_
    replace h := Option.bind_eq_some_iff.mp h; obtain ⟨r9, hr9, h⟩ := h
    refine ev_gR dX11_restore_37 fl_X11_55 hr9 rfl ?_
    refine ev_aload_n (q := 41) dX11_restore_40 rfl rfl ?_
    replace h := Option.bind_eq_some_iff.mp h; obtain ⟨r10, hr10, h⟩ := h
    refine ev_gR dX11_restore_41 fl_X11_19 hr10 rfl ?_
    replace h := Option.bind_eq_some_iff.mp h; obtain ⟨w11, hw11, h⟩ := h
    refine ev_invS (M1 := M_X11_copy) (as := [vr r9, vr r10]) dX11_restore_44 rfl tw_1193 cal_X11_copy tw_1194 (by decide) rfl rfl (Nat.le_of_ble_eq_true rfl) (met_X11_copy r9 r10 w8 _ hw11) ?_
    refine ev_aload_n (q := 48) dX11_restore_47 rfl rfl ?_
    replace h := Option.bind_eq_some_iff.mp h; obtain ⟨r12, hr12, h⟩ := h
    refine ev_gR dX11_restore_48 fl_X11_58 hr12 rfl ?_
    refine ev_aload_n (q := 52) dX11_restore_51 rfl rfl ?_
    replace h := Option.bind_eq_some_iff.mp h; obtain ⟨r13, hr13, h⟩ := h
    refine ev_gR dX11_restore_52 fl_X11_22 hr13 rfl ?_
    replace h := Option.bind_eq_some_iff.mp h; obtain ⟨w14, hw14, h⟩ := h
    refine ev_invS (M1 := M_X11_copy) (as := [vr r12, vr r13]) dX11_restore_55 rfl tw_1193 cal_X11_copy tw_1194 (by decide) rfl rfl (Nat.le_of_ble_eq_true rfl) (met_X11_copy r12 r13 w11 _ hw14) ?_
    refine ev_aload_n (q := 59) dX11_restore_58 rfl rfl ?_
    replace h := Option.bind_eq_some_iff.mp h; obtain ⟨r15, hr15, h⟩ := h
    refine ev_gR dX11_restore_59 fl_X11_61 hr15 rfl ?_
    refine ev_aload_n (q := 63) dX11_restore_62 rfl rfl ?_
    replace h := Option.bind_eq_some_iff.mp h; obtain ⟨r16, hr16, h⟩ := h
    refine ev_gR dX11_restore_63 fl_X11_28 hr16 rfl ?_
    replace h := Option.bind_eq_some_iff.mp h; obtain ⟨w17, hw17, h⟩ := h
    refine ev_invS (M1 := M_X11_copy) (as := [vr r15, vr r16]) dX11_restore_66 rfl tw_1193 cal_X11_copy tw_1194 (by decide) rfl rfl (Nat.le_of_ble_eq_true rfl) (met_X11_copy r15 r16 w14 _ hw17) ?_
    refine ev_aload_n (q := 70) dX11_restore_69 rfl rfl ?_
    replace h := Option.bind_eq_some_iff.mp h; obtain ⟨r18, hr18, h⟩ := h
    refine ev_gR dX11_restore_70 fl_X11_64 hr18 rfl ?_
    refine ev_aload_n (q := 74) dX11_restore_73 rfl rfl ?_
    replace h := Option.bind_eq_some_iff.mp h; obtain ⟨r19, hr19, h⟩ := h
    refine ev_gR dX11_restore_74 fl_X11_31 hr19 rfl ?_
    replace h := Option.bind_eq_some_iff.mp h; obtain ⟨w20, hw20, h⟩ := h
    refine ev_invS (M1 := M_X11_copy) (as := [vr r18, vr r19]) dX11_restore_77 rfl tw_1193 cal_X11_copy tw_1194 (by decide) rfl rfl (Nat.le_of_ble_eq_true rfl) (met_X11_copy r18 r19 w17 _ hw20) ?_
    refine ev_aload_n (q := 81) dX11_restore_80 rfl rfl ?_
    replace h := Option.bind_eq_some_iff.mp h; obtain ⟨r21, hr21, h⟩ := h
    refine ev_gR dX11_restore_81 fl_X11_67 hr21 rfl ?_
    refine ev_aload_n (q := 85) dX11_restore_84 rfl rfl ?_
    replace h := Option.bind_eq_some_iff.mp h; obtain ⟨r22, hr22, h⟩ := h
    refine ev_gR dX11_restore_85 fl_X11_34 hr22 rfl ?_
    replace h := Option.bind_eq_some_iff.mp h; obtain ⟨w23, hw23, h⟩ := h
    refine ev_invS (M1 := M_X11_copy) (as := [vr r21, vr r22]) dX11_restore_88 rfl tw_1193 cal_X11_copy tw_1194 (by decide) rfl rfl (Nat.le_of_ble_eq_true rfl) (met_X11_copy r21 r22 w20 _ hw23) ?_
    refine ev_aload_n (q := 92) dX11_restore_91 rfl rfl ?_
    replace h := Option.bind_eq_some_iff.mp h; obtain ⟨r24, hr24, h⟩ := h
    refine ev_gR dX11_restore_92 fl_X11_70 hr24 rfl ?_
    refine ev_aload_n (q := 96) dX11_restore_95 rfl rfl ?_
    replace h := Option.bind_eq_some_iff.mp h; obtain ⟨r25, hr25, h⟩ := h
    refine ev_gR dX11_restore_96 fl_X11_46 hr25 rfl ?_
    replace h := Option.bind_eq_some_iff.mp h; obtain ⟨w26, hw26, h⟩ := h
    refine ev_invS (M1 := M_X11_copy) (as := [vr r24, vr r25]) dX11_restore_99 rfl tw_1193 cal_X11_copy tw_1194 (by decide) rfl rfl (Nat.le_of_ble_eq_true rfl) (met_X11_copy r24 r25 w23 _ hw26) ?_
    refine ev_aload_n (q := 103) dX11_restore_102 rfl rfl ?_
    refine ev_aload_n (q := 104) dX11_restore_103 rfl rfl ?_
    replace h := Option.bind_eq_some_iff.mp h; obtain ⟨r27, hr27, h⟩ := h
    refine ev_gI dX11_restore_104 fl_X11_268 hr27 rfl ?_
    replace h := Option.bind_eq_some_iff.mp h; obtain ⟨w28, hw28, h⟩ := h
    refine ev_pI dX11_restore_107 fp_X11_122 hw28 rfl ?_
    refine ev_aload_n (q := 111) dX11_restore_110 rfl rfl ?_
    refine ev_aload_n (q := 112) dX11_restore_111 rfl rfl ?_
    replace h := Option.bind_eq_some_iff.mp h; obtain ⟨r29, hr29, h⟩ := h
    refine ev_gI dX11_restore_112 fl_X11_271 hr29 rfl ?_
    replace h := Option.bind_eq_some_iff.mp h; obtain ⟨w30, hw30, h⟩ := h
    refine ev_pI dX11_restore_115 fp_X11_125 hw30 rfl ?_
    refine ev_aload_n (q := 119) dX11_restore_118 rfl rfl ?_
    refine ev_aload_n (q := 120) dX11_restore_119 rfl rfl ?_
    replace h := Option.bind_eq_some_iff.mp h; obtain ⟨r31, hr31, h⟩ := h
    refine ev_gI dX11_restore_120 fl_X11_274 hr31 rfl ?_
    replace h := Option.bind_eq_some_iff.mp h; obtain ⟨w32, hw32, h⟩ := h
    refine ev_pI dX11_restore_123 fp_X11_128 hw32 rfl ?_
    refine ev_aload_n (q := 127) dX11_restore_126 rfl rfl ?_
    refine ev_aload_n (q := 128) dX11_restore_127 rfl rfl ?_
    replace h := Option.bind_eq_some_iff.mp h; obtain ⟨r33, hr33, h⟩ := h
    refine ev_gI dX11_restore_128 fl_X11_277 hr33 rfl ?_
    replace h := Option.bind_eq_some_iff.mp h; obtain ⟨w34, hw34, h⟩ := h
    refine ev_pI dX11_restore_131 fp_X11_131 hw34 rfl ?_
    refine ev_aload_n (q := 135) dX11_restore_134 rfl rfl ?_
    refine ev_aload_n (q := 136) dX11_restore_135 rfl rfl ?_
    replace h := Option.bind_eq_some_iff.mp h; obtain ⟨r35, hr35, h⟩ := h
    refine ev_gI dX11_restore_136 fl_X11_280 hr35 rfl ?_
    replace h := Option.bind_eq_some_iff.mp h; obtain ⟨w36, hw36, h⟩ := h
    refine ev_pI dX11_restore_139 fp_X11_134 hw36 rfl ?_
    refine ev_aload_n (q := 143) dX11_restore_142 rfl rfl ?_
    replace h := Option.bind_eq_some_iff.mp h; obtain ⟨r37, hr37, h⟩ := h
    refine ev_gI dX11_restore_143 fl_X11_128 hr37 rfl ?_
    cases h
    exact ev_iret dX11_restore_146 rfl rfl
  · rw [if_neg hc] at h
    refine ev_icmp_eq_f (q := 11) (t0 := 14) dX11_restore_8 (by decide) rfl hc ?_
    refine ev_bipush (q := 13) (v := (-103 : Int32)) dX11_restore_11 rfl (by decide) ?_
    cases h
    exact ev_iret dX11_restore_13 rfl rfl
def f_X11_stir (o : Nat) (v1 : Int32) (w : mW) : Option (Int32 × mW) := Option.bind (f_X11_in v1.toInt64 (1 : Int64) (60 : Int64) w) fun r1 => if r1 = 0 then (some (((-102 : Int32), w))) else (Option.bind (kO w (some o) 11) fun _ => Option.bind (f_X11_lacks o  w) fun r2 => if r2 = 0 then (Option.bind (gI w (some o) 11 6) fun r4 => if r4 + v1 ≤ (99 : Int32) then (Option.bind (gI w (some o) 11 6) fun r5 => Option.bind (pI w (some o) 11 6 (r5 + v1)) fun w6 => Option.bind (gI w6 (some o) 11 6) fun r7 => some ((r7, w6))) else (some (((-104 : Int32), w)))) else (some (((-103 : Int32), w))))
set_option maxRecDepth 100000 in
set_option maxHeartbeats 4000000 in
theorem met_X11_stir (o : Nat) (v1 : Int32) (w : mW) (res : Int32 × mW) (h : f_X11_stir o v1 w = some res) : mMet M_X11_stir 1 [vr ((some o)), vi v1] w (some (vi res.1)) res.2 := by
  refine ev_met (n := 0) (by decide) rfl fun X => ?_
  unfold f_X11_stir at h
  show mEv X M_X11_stir 1 _ _ 0 [some (vr ((some o))), some (vi v1)] [] w
  refine ev_iload_n (q := 1) dX11_stir_0 rfl rfl ?_
  refine ev_i2l (q := 2) dX11_stir_1 rfl ?_
  refine ev_lconst (q := 3) (v := (1 : Int64)) dX11_stir_2 rfl (by decide) ?_
  refine ev_ldc2 (q := 6) (v := (60 : Int64)) dX11_stir_3 rfl tw_1124 ?_
  replace h := Option.bind_eq_some_iff.mp h; obtain ⟨r1, hr1, h⟩ := h
  refine ev_invS (M1 := M_X11_in) (as := [vl v1.toInt64, vl ((1 : Int64)), vl ((60 : Int64))]) dX11_stir_6 rfl tw_954 cal_X11_in tw_955 (by decide) rfl rfl (Nat.le_of_ble_eq_true rfl) (met_X11_in v1.toInt64 (1 : Int64) (60 : Int64) w _ hr1) ?_
  by_cases hc : r1 = 0
  · rw [if_pos hc] at h
    refine ev_if_ne_f (q := 12) (t0 := 15) dX11_stir_9 (by decide) rfl hc ?_
    refine ev_bipush (q := 14) (v := (-102 : Int32)) dX11_stir_12 rfl (by decide) ?_
    cases h
    exact ev_iret dX11_stir_14 rfl rfl
  · rw [if_neg hc] at h
    refine ev_if_ne_t (q := 15) dX11_stir_9 (by decide) hc ?_
    refine ev_aload_n (q := 16) dX11_stir_15 rfl rfl ?_
    replace h := Option.bind_eq_some_iff.mp h; obtain ⟨q3, hq3, h⟩ := h
    obtain ⟨hxq3, fsq3, hkq3⟩ := kO_spec hq3
    cases hxq3
    replace h := Option.bind_eq_some_iff.mp h; obtain ⟨r2, hr2, h⟩ := h
    refine ev_invV (M1 := M_X11_lacks) (as := []) (fs := fsq3) (ci := 11) dX11_stir_16 rfl tw_1104 cal_X11_lacks tw_1106 tw_48 (by decide) rfl rfl (Nat.le_of_ble_eq_true rfl) hkq3 rfl (met_X11_lacks o  w _ hr2) ?_
    by_cases hc : r2 = 0
    · rw [if_pos hc] at h
      refine ev_if_eq_t (q := 25) dX11_stir_19 (by decide) hc ?_
      refine ev_aload_n (q := 26) dX11_stir_25 rfl rfl ?_
      replace h := Option.bind_eq_some_iff.mp h; obtain ⟨r4, hr4, h⟩ := h
      refine ev_gI dX11_stir_26 fl_X11_125 hr4 rfl ?_
      refine ev_iload_n (q := 30) dX11_stir_29 rfl rfl ?_
      refine ev_iadd (q := 31) dX11_stir_30 rfl ?_
      refine ev_bipush (q := 33) (v := (99 : Int32)) dX11_stir_31 rfl (by decide) ?_
      by_cases hc : r4 + v1 ≤ (99 : Int32)
      · rw [if_pos hc] at h
        refine ev_icmp_le_t (q := 39) dX11_stir_33 (by decide) hc ?_
        refine ev_aload_n (q := 40) dX11_stir_39 rfl rfl ?_
        refine ev_dup (q := 41) dX11_stir_40 rfl rfl ?_
        replace h := Option.bind_eq_some_iff.mp h; obtain ⟨r5, hr5, h⟩ := h
        refine ev_gI dX11_stir_41 fl_X11_125 hr5 rfl ?_
        refine ev_iload_n (q := 45) dX11_stir_44 rfl rfl ?_
        refine ev_iadd (q := 46) dX11_stir_45 rfl ?_
        replace h := Option.bind_eq_some_iff.mp h; obtain ⟨w6, hw6, h⟩ := h
        refine ev_pI dX11_stir_46 fp_X11_125 hw6 rfl ?_
        refine ev_aload_n (q := 50) dX11_stir_49 rfl rfl ?_
        replace h := Option.bind_eq_some_iff.mp h; obtain ⟨r7, hr7, h⟩ := h
        refine ev_gI dX11_stir_50 fl_X11_125 hr7 rfl ?_
        cases h
        exact ev_iret dX11_stir_53 rfl rfl
      · rw [if_neg hc] at h
        refine ev_icmp_le_f (q := 36) (t0 := 39) dX11_stir_33 (by decide) rfl hc ?_
        refine ev_bipush (q := 38) (v := (-104 : Int32)) dX11_stir_36 rfl (by decide) ?_
        cases h
        exact ev_iret dX11_stir_38 rfl rfl
    · rw [if_neg hc] at h
      refine ev_if_eq_f (q := 22) (t0 := 25) dX11_stir_19 (by decide) rfl hc ?_
      refine ev_bipush (q := 24) (v := (-103 : Int32)) dX11_stir_22 rfl (by decide) ?_
      cases h
      exact ev_iret dX11_stir_24 rfl rfl
