def f_X10_count (o : Nat) (v1 : Int32) (w : mW) : Option (Int32) := if v1 = 0 then (Option.bind (gI w (some o) 10 7) fun r1 => some (r1)) else (if v1 = 1 then (Option.bind (gI w (some o) 10 8) fun r2 => some (r2)) else (if v1 = 2 then (Option.bind (gR w (some o) 10 3) fun r3 => Option.bind (gI w r3 2 7) fun r4 => Option.bind (f_J6_bitCount_0f7a4 r4 w) fun r5 => some (r5)) else (if v1 = 3 then (Option.bind (gR w (some o) 10 3) fun r6 => Option.bind (gI w r6 2 9) fun r7 => some (r7)) else (if v1 = 4 then (Option.bind (gR w (some o) 10 3) fun r8 => Option.bind (gI w r8 2 8) fun r9 => some (r9 + (1 : Int32))) else (if v1 = 5 then (Option.bind (gR w (some o) 10 3) fun r10 => Option.bind (gI w r10 2 10) fun r11 => some (r11)) else (if v1 = 6 then (Option.bind (gR w (some o) 10 3) fun r12 => Option.bind (gR w r12 2 1) fun r13 => Option.bind (f_X10_sum r13 w) fun r14 => some (r14)) else (if v1 = 7 then (Option.bind (gR w (some o) 10 3) fun r15 => Option.bind (gR w r15 2 2) fun r16 => Option.bind (f_X10_sum r16 w) fun r17 => some (r17)) else (if v1 = 8 then (Option.bind (gR w (some o) 10 3) fun r18 => Option.bind (gI w r18 2 11) fun r19 => some (r19)) else (if v1 = 9 then (Option.bind (gR w (some o) 10 3) fun r20 => Option.bind (gR w r20 2 6) fun r21 => Option.bind (gI w r21 6 3) fun r22 => some (r22)) else (if v1 = 10 then (Option.bind (gR w (some o) 10 0) fun r23 => Option.bind (gI w r23 3 1) fun r24 => some (r24)) else (if v1 = 11 then (Option.bind (gI w (some o) 10 9) fun r25 => some (r25)) else (some ((-102 : Int32))))))))))))))
set_option maxRecDepth 100000 in
set_option maxHeartbeats 4000000 in
theorem met_X10_count (o : Nat) (v1 : Int32) (w : mW) (res : Int32) (h : f_X10_count o v1 w = some res) : mMet M_X10_count 1 [vr ((some o)), vi v1] w (some (vi res)) w := by
  refine ev_met (n := 0) (by decide) rfl fun X => ?_
  unfold f_X10_count at h
  show mEv X M_X10_count 1 _ _ 0 [some (vr ((some o))), some (vi v1)] [] w
  refine ev_iload_n (q := 1) dX10_count_0 rfl rfl ?_
  by_cases hc0 : v1 = 0
  · rw [if_pos hc0] at h
    refine ev_table_in (q := 64) (off := 63) dX10_count_1 (by rw [hc0]; decide) (by rw [hc0]; decide) (by rw [hc0]; rfl) (by decide) ?_
    refine ev_aload_n (q := 65) dX10_count_64 rfl rfl ?_
    replace h := Option.bind_eq_some_iff.mp h; obtain ⟨r1, hr1, h⟩ := h
    refine ev_gI dX10_count_65 fl_X10_72 hr1 rfl ?_
    cases h
    exact ev_iret dX10_count_68 rfl rfl
  · rw [if_neg hc0] at h
    by_cases hc1 : v1 = 1
    · rw [if_pos hc1] at h
      refine ev_table_in (q := 69) (off := 68) dX10_count_1 (by rw [hc1]; decide) (by rw [hc1]; decide) (by rw [hc1]; rfl) (by decide) ?_
      refine ev_aload_n (q := 70) dX10_count_69 rfl rfl ?_
      replace h := Option.bind_eq_some_iff.mp h; obtain ⟨r2, hr2, h⟩ := h
      refine ev_gI dX10_count_70 fl_X10_197 hr2 rfl ?_
      cases h
      exact ev_iret dX10_count_73 rfl rfl
    · rw [if_neg hc1] at h
      by_cases hc2 : v1 = 2
      · rw [if_pos hc2] at h
        refine ev_table_in (q := 74) (off := 73) dX10_count_1 (by rw [hc2]; decide) (by rw [hc2]; decide) (by rw [hc2]; rfl) (by decide) ?_
        refine ev_aload_n (q := 75) dX10_count_74 rfl rfl ?_
        replace h := Option.bind_eq_some_iff.mp h; obtain ⟨r3, hr3, h⟩ := h
        refine ev_gR dX10_count_75 fl_X10_32 hr3 rfl ?_
        replace h := Option.bind_eq_some_iff.mp h; obtain ⟨r4, hr4, h⟩ := h
        refine ev_gI dX10_count_78 fl_X10_86 hr4 rfl ?_
        replace h := Option.bind_eq_some_iff.mp h; obtain ⟨r5, hr5, h⟩ := h
        refine ev_invS (M1 := M_J6_bitCount_0f7a4) (as := [vi r4]) dX10_count_81 rfl tw_552 cal_J6_bitCount_0f7a4 tw_553 (by decide) rfl rfl (Nat.le_of_ble_eq_true rfl) (met_J6_bitCount_0f7a4 r4 w _ hr5) ?_
        cases h
        exact ev_iret dX10_count_84 rfl rfl
      · rw [if_neg hc2] at h
        by_cases hc3 : v1 = 3
        · rw [if_pos hc3] at h
          refine ev_table_in (q := 85) (off := 84) dX10_count_1 (by rw [hc3]; decide) (by rw [hc3]; decide) (by rw [hc3]; rfl) (by decide) ?_
          refine ev_aload_n (q := 86) dX10_count_85 rfl rfl ?_
          replace h := Option.bind_eq_some_iff.mp h; obtain ⟨r6, hr6, h⟩ := h
          refine ev_gR dX10_count_86 fl_X10_32 hr6 rfl ?_
          replace h := Option.bind_eq_some_iff.mp h; obtain ⟨r7, hr7, h⟩ := h
          refine ev_gI dX10_count_89 fl_X10_159 hr7 rfl ?_
          cases h
          exact ev_iret dX10_count_92 rfl rfl
        · rw [if_neg hc3] at h
          by_cases hc4 : v1 = 4
          · rw [if_pos hc4] at h
            refine ev_table_in (q := 93) (off := 92) dX10_count_1 (by rw [hc4]; decide) (by rw [hc4]; decide) (by rw [hc4]; rfl) (by decide) ?_
            refine ev_aload_n (q := 94) dX10_count_93 rfl rfl ?_
            replace h := Option.bind_eq_some_iff.mp h; obtain ⟨r8, hr8, h⟩ := h
            refine ev_gR dX10_count_94 fl_X10_32 hr8 rfl ?_
            replace h := Option.bind_eq_some_iff.mp h; obtain ⟨r9, hr9, h⟩ := h
            refine ev_gI dX10_count_97 fl_X10_146 hr9 rfl ?_
            refine ev_iconst (q := 101) (v := (1 : Int32)) dX10_count_100 rfl (by decide) ?_
            refine ev_iadd (q := 102) dX10_count_101 rfl ?_
            cases h
            exact ev_iret dX10_count_102 rfl rfl
          · rw [if_neg hc4] at h
            by_cases hc5 : v1 = 5
            · rw [if_pos hc5] at h
              refine ev_table_in (q := 103) (off := 102) dX10_count_1 (by rw [hc5]; decide) (by rw [hc5]; decide) (by rw [hc5]; rfl) (by decide) ?_
              refine ev_aload_n (q := 104) dX10_count_103 rfl rfl ?_
              replace h := Option.bind_eq_some_iff.mp h; obtain ⟨r10, hr10, h⟩ := h
              refine ev_gR dX10_count_104 fl_X10_32 hr10 rfl ?_
              replace h := Option.bind_eq_some_iff.mp h; obtain ⟨r11, hr11, h⟩ := h
              refine ev_gI dX10_count_107 fl_X10_176 hr11 rfl ?_
              cases h
              exact ev_iret dX10_count_110 rfl rfl
            · rw [if_neg hc5] at h
              by_cases hc6 : v1 = 6
              · rw [if_pos hc6] at h
                refine ev_table_in (q := 111) (off := 110) dX10_count_1 (by rw [hc6]; decide) (by rw [hc6]; decide) (by rw [hc6]; rfl) (by decide) ?_
                refine ev_aload_n (q := 112) dX10_count_111 rfl rfl ?_
                replace h := Option.bind_eq_some_iff.mp h; obtain ⟨r12, hr12, h⟩ := h
                refine ev_gR dX10_count_112 fl_X10_32 hr12 rfl ?_
                replace h := Option.bind_eq_some_iff.mp h; obtain ⟨r13, hr13, h⟩ := h
                refine ev_gR dX10_count_115 fl_X10_89 hr13 rfl ?_
                replace h := Option.bind_eq_some_iff.mp h; obtain ⟨r14, hr14, h⟩ := h
                refine ev_invS (M1 := M_X10_sum) (as := [vr r13]) dX10_count_118 rfl tw_687 cal_X10_sum tw_688 (by decide) rfl rfl (Nat.le_of_ble_eq_true rfl) (met_X10_sum r13 w _ hr14) ?_
                cases h
                exact ev_iret dX10_count_121 rfl rfl
              · rw [if_neg hc6] at h
                by_cases hc7 : v1 = 7
                · rw [if_pos hc7] at h
                  refine ev_table_in (q := 122) (off := 121) dX10_count_1 (by rw [hc7]; decide) (by rw [hc7]; decide) (by rw [hc7]; rfl) (by decide) ?_
                  refine ev_aload_n (q := 123) dX10_count_122 rfl rfl ?_
                  replace h := Option.bind_eq_some_iff.mp h; obtain ⟨r15, hr15, h⟩ := h
                  refine ev_gR dX10_count_123 fl_X10_32 hr15 rfl ?_
                  replace h := Option.bind_eq_some_iff.mp h; obtain ⟨r16, hr16, h⟩ := h
                  refine ev_gR dX10_count_126 fl_X10_92 hr16 rfl ?_
                  replace h := Option.bind_eq_some_iff.mp h; obtain ⟨r17, hr17, h⟩ := h
                  refine ev_invS (M1 := M_X10_sum) (as := [vr r16]) dX10_count_129 rfl tw_687 cal_X10_sum tw_688 (by decide) rfl rfl (Nat.le_of_ble_eq_true rfl) (met_X10_sum r16 w _ hr17) ?_
                  cases h
                  exact ev_iret dX10_count_132 rfl rfl
                · rw [if_neg hc7] at h
                  by_cases hc8 : v1 = 8
                  · rw [if_pos hc8] at h
                    refine ev_table_in (q := 133) (off := 132) dX10_count_1 (by rw [hc8]; decide) (by rw [hc8]; decide) (by rw [hc8]; rfl) (by decide) ?_
                    refine ev_aload_n (q := 134) dX10_count_133 rfl rfl ?_
                    replace h := Option.bind_eq_some_iff.mp h; obtain ⟨r18, hr18, h⟩ := h
                    refine ev_gR dX10_count_134 fl_X10_32 hr18 rfl ?_
                    replace h := Option.bind_eq_some_iff.mp h; obtain ⟨r19, hr19, h⟩ := h
                    refine ev_gI dX10_count_137 fl_X10_161 hr19 rfl ?_
                    cases h
                    exact ev_iret dX10_count_140 rfl rfl
                  · rw [if_neg hc8] at h
                    by_cases hc9 : v1 = 9
                    · rw [if_pos hc9] at h
                      refine ev_table_in (q := 141) (off := 140) dX10_count_1 (by rw [hc9]; decide) (by rw [hc9]; decide) (by rw [hc9]; rfl) (by decide) ?_
                      refine ev_aload_n (q := 142) dX10_count_141 rfl rfl ?_
                      replace h := Option.bind_eq_some_iff.mp h; obtain ⟨r20, hr20, h⟩ := h
                      refine ev_gR dX10_count_142 fl_X10_32 hr20 rfl ?_
                      replace h := Option.bind_eq_some_iff.mp h; obtain ⟨r21, hr21, h⟩ := h
                      refine ev_gR dX10_count_145 fl_X10_123 hr21 rfl ?_
                      replace h := Option.bind_eq_some_iff.mp h; obtain ⟨r22, hr22, h⟩ := h
                      refine ev_gI dX10_count_148 fl_X10_206 hr22 rfl ?_
                      cases h
                      exact ev_iret dX10_count_151 rfl rfl
                    · rw [if_neg hc9] at h
                      by_cases hc10 : v1 = 10
                      · rw [if_pos hc10] at h
                        refine ev_table_in (q := 152) (off := 151) dX10_count_1 (by rw [hc10]; decide) (by rw [hc10]; decide) (by rw [hc10]; rfl) (by decide) ?_
                        refine ev_aload_n (q := 153) dX10_count_152 rfl rfl ?_
                        replace h := Option.bind_eq_some_iff.mp h; obtain ⟨r23, hr23, h⟩ := h
                        refine ev_gR dX10_count_153 fl_X10_10 hr23 rfl ?_
                        replace h := Option.bind_eq_some_iff.mp h; obtain ⟨r24, hr24, h⟩ := h
                        refine ev_gI dX10_count_156 fl_X10_50 hr24 rfl ?_
                        cases h
                        exact ev_iret dX10_count_159 rfl rfl
                      · rw [if_neg hc10] at h
                        by_cases hc11 : v1 = 11
                        · rw [if_pos hc11] at h
                          refine ev_table_in (q := 160) (off := 159) dX10_count_1 (by rw [hc11]; decide) (by rw [hc11]; decide) (by rw [hc11]; rfl) (by decide) ?_
                          refine ev_aload_n (q := 161) dX10_count_160 rfl rfl ?_
                          replace h := Option.bind_eq_some_iff.mp h; obtain ⟨r25, hr25, h⟩ := h
                          refine ev_gI dX10_count_161 fl_X10_69 hr25 rfl ?_
                          cases h
                          exact ev_iret dX10_count_164 rfl rfl
                        · rw [if_neg hc11] at h
                          refine ev_table_out (q := 165) dX10_count_1 (by have z0 := mNe (z := 0) (by decide) hc0; have z1 := mNe (z := 1) (by decide) hc1; have z2 := mNe (z := 2) (by decide) hc2; have z3 := mNe (z := 3) (by decide) hc3; have z4 := mNe (z := 4) (by decide) hc4; have z5 := mNe (z := 5) (by decide) hc5; have z6 := mNe (z := 6) (by decide) hc6; have z7 := mNe (z := 7) (by decide) hc7; have z8 := mNe (z := 8) (by decide) hc8; have z9 := mNe (z := 9) (by decide) hc9; have z10 := mNe (z := 10) (by decide) hc10; have z11 := mNe (z := 11) (by decide) hc11; omega) (by decide) ?_
                          refine ev_bipush (q := 167) (v := (-102 : Int32)) dX10_count_165 rfl (by decide) ?_
                          cases h
                          exact ev_iret dX10_count_167 rfl rfl
def f_X10_isCell_J22 (s0 : Int32) (w : mW) : Option (Int32) := if s0 = 0 ∨ s0 = 1 then some (s0) else none
set_option maxRecDepth 100000 in
set_option maxHeartbeats 4000000 in
theorem e_X10_isCell_J22 {X : mXs} (s0 : Int32) (w : mW) (res : Int32) (h : f_X10_isCell_J22 s0 w = some res) : mEv X M_X10_isCell 1 (some (vi res)) w 22 [none, none] [vi s0] w := by
  unfold f_X10_isCell_J22 at h
  by_cases hz : s0 = 0 ∨ s0 = 1
  · rw [if_pos hz] at h
    cases h
    exact ev_zret dX10_isCell_22 rfl hz
  · rw [if_neg hz] at h
    cases h
def f_X10_isCell_J21 (w : mW) : Option (Int32) := f_X10_isCell_J22 (0 : Int32) w
set_option maxRecDepth 100000 in
set_option maxHeartbeats 4000000 in
theorem e_X10_isCell_J21 {X : mXs} (w : mW) (res : Int32) (h : f_X10_isCell_J21 w = some res) : mEv X M_X10_isCell 1 (some (vi res)) w 21 [none, none] [] w := by
  unfold f_X10_isCell_J21 at h
  refine ev_iconst (q := 22) (v := (0 : Int32)) dX10_isCell_21 rfl (by decide) ?_
  exact ev_weak _ (mLe_none (mLe_none mLe_nil)) (e_X10_isCell_J22 (0 : Int32) w _ h)
def f_X10_isCell (o : Nat) (v1 : Int32) (w : mW) : Option (Int32) := Option.bind (kO w (some o) 10) fun _ => Option.bind (f_X10_hasPort o  w) fun r1 => if r1 = 0 then (f_X10_isCell_J21 w) else (if v1 < 0 then (f_X10_isCell_J21 w) else (if (36 : Int32) ≤ v1 then (f_X10_isCell_J21 w) else (f_X10_isCell_J22 (1 : Int32) w)))
set_option maxRecDepth 100000 in
set_option maxHeartbeats 4000000 in
theorem met_X10_isCell (o : Nat) (v1 : Int32) (w : mW) (res : Int32) (h : f_X10_isCell o v1 w = some res) : mMet M_X10_isCell 1 [vr ((some o)), vi v1] w (some (vi res)) w := by
  refine ev_met (n := 0) (by decide) rfl fun X => ?_
  unfold f_X10_isCell at h
  show mEv X M_X10_isCell 1 _ _ 0 [some (vr ((some o))), some (vi v1)] [] w
  refine ev_aload_n (q := 1) dX10_isCell_0 rfl rfl ?_
  replace h := Option.bind_eq_some_iff.mp h; obtain ⟨q2, hq2, h⟩ := h
  obtain ⟨hxq2, fsq2, hkq2⟩ := kO_spec hq2
  cases hxq2
  replace h := Option.bind_eq_some_iff.mp h; obtain ⟨r1, hr1, h⟩ := h
  refine ev_invV (M1 := M_X10_hasPort) (as := []) (fs := fsq2) (ci := 10) dX10_isCell_1 rfl tw_600 cal_X10_hasPort tw_602 tw_22 (by decide) rfl rfl (Nat.le_of_ble_eq_true rfl) hkq2 rfl (met_X10_hasPort o  w _ hr1) ?_
  by_cases hc : r1 = 0
  · rw [if_pos hc] at h
    refine ev_if_eq_t (q := 21) dX10_isCell_4 (by decide) hc ?_
    exact ev_weak _ (mLe_none (mLe_none mLe_nil)) (e_X10_isCell_J21 w _ h)
  · rw [if_neg hc] at h
    refine ev_if_eq_f (q := 7) (t0 := 21) dX10_isCell_4 (by decide) rfl hc ?_
    refine ev_iload_n (q := 8) dX10_isCell_7 rfl rfl ?_
    by_cases hc : v1 < 0
    · rw [if_pos hc] at h
      refine ev_if_lt_t (q := 21) dX10_isCell_8 (by decide) hc ?_
      exact ev_weak _ (mLe_none (mLe_none mLe_nil)) (e_X10_isCell_J21 w _ h)
    · rw [if_neg hc] at h
      refine ev_if_lt_f (q := 11) (t0 := 21) dX10_isCell_8 (by decide) rfl hc ?_
      refine ev_iload_n (q := 12) dX10_isCell_11 rfl rfl ?_
      refine ev_bipush (q := 14) (v := (36 : Int32)) dX10_isCell_12 rfl (by decide) ?_
      by_cases hc : (36 : Int32) ≤ v1
      · rw [if_pos hc] at h
        refine ev_icmp_ge_t (q := 21) dX10_isCell_14 (by decide) hc ?_
        exact ev_weak _ (mLe_none (mLe_none mLe_nil)) (e_X10_isCell_J21 w _ h)
      · rw [if_neg hc] at h
        refine ev_icmp_ge_f (q := 17) (t0 := 21) dX10_isCell_14 (by decide) rfl hc ?_
        refine ev_iconst (q := 18) (v := (1 : Int32)) dX10_isCell_17 rfl (by decide) ?_
        refine ev_goto (q := 22) dX10_isCell_18 (by decide) ?_
        exact ev_weak _ (mLe_none (mLe_none mLe_nil)) (e_X10_isCell_J22 (1 : Int32) w _ h)
def f_X10_isTakenByAnother_J32 (kc : Int32 → Option ((Int32) ⊕ (Unit))) (o : Nat) (v1 : Int32) (v2 : Int32) (v3 : Int32) (w : mW) : Option ((Int32) ⊕ (Unit)) := kc (v3 + (1 : Int32))
set_option maxRecDepth 100000 in
set_option maxHeartbeats 4000000 in
theorem e_X10_isTakenByAnother_J32 {X : mXs} {r : Option mV} {w' : mW} (P : ((Int32) ⊕ (Unit)) → Prop) (o : Nat) (v1 : Int32) (v2 : Int32) (v3 : Int32) (w : mW) (kc : Int32 → Option ((Int32) ⊕ (Unit))) (hk : ∀ (u3 : Int32) (e : (Int32) ⊕ (Unit)), kc u3 = some e → P e → mEv X M_X10_isTakenByAnother 1 r w' 2 [some (vr ((some o))), some (vi v1), some (vi v2), some (vi u3)] [] w) (e : (Int32) ⊕ (Unit)) (h : f_X10_isTakenByAnother_J32 kc o v1 v2 v3 w = some e) (hP : P e) : mEv X M_X10_isTakenByAnother 1 r w' 32 [some (vr ((some o))), some (vi v1), some (vi v2), some (vi v3)] [] w := by
  unfold f_X10_isTakenByAnother_J32 at h
  refine ev_iinc (q := 35) (v := v3 + (1 : Int32)) dX10_isTakenByAnother_32 rfl (by decide) rfl (by rfl) ?_
  refine ev_goto (q := 2) dX10_isTakenByAnother_35 (by decide) ?_
  exact ev_weak _ (mLe_some (mLe_some (mLe_some (mLe_some mLe_nil)))) (hk (v3 + (1 : Int32)) _ h hP)
def f_X10_isTakenByAnother_L2 (o : Nat) (v1 : Int32) (v2 : Int32) (w : mW) : Nat → Int32 → Option ((Int32) ⊕ (Unit))
  | 0, _ => none
  | n + 1, v3 => Option.bind (gI w (some o) 10 7) fun r1 => if r1 ≤ v3 then (some (.inr ())) else (if v3 = v2 then (f_X10_isTakenByAnother_J32 (f_X10_isTakenByAnother_L2 o v1 v2 w n) o v1 v2 v3 w) else (Option.bind (gR w (some o) 10 3) fun r2 => Option.bind (gR w r2 2 0) fun r3 => Option.bind (f_X10_at r3 v3 w) fun r4 => if r4 = v1 then (some (.inl (1 : Int32))) else (f_X10_isTakenByAnother_J32 (f_X10_isTakenByAnother_L2 o v1 v2 w n) o v1 v2 v3 w)))
set_option maxRecDepth 100000 in
set_option maxHeartbeats 4000000 in
theorem e_X10_isTakenByAnother_L2 {X : mXs} {r : Option mV} {w' : mW} (P : ((Int32) ⊕ (Unit)) → Prop) (o : Nat) (v1 : Int32) (v2 : Int32) (w : mW) (hret : ∀ y, P (.inl y) → r = (some (vi y)) ∧ w' = w) (hexit : ∀ y, P (.inr y) → mEv X M_X10_isTakenByAnother 1 r w' 38 [none, none, none, none] [] w) : ∀ (n : Nat) (v3 : Int32) (e : (Int32) ⊕ (Unit)), f_X10_isTakenByAnother_L2 o v1 v2 w n v3 = some e → P e → mEv X M_X10_isTakenByAnother 1 r w' 2 [some (vr ((some o))), some (vi v1), some (vi v2), some (vi v3)] [] w := by
  intro n
  induction n with
  | zero =>
    intro v3 e h hP
    rw [f_X10_isTakenByAnother_L2] at h
    cases h
  | succ n hk =>
    intro v3 e h hP
    rw [f_X10_isTakenByAnother_L2] at h
    refine ev_iload_n (q := 3) dX10_isTakenByAnother_2 rfl rfl ?_
    refine ev_aload_n (q := 4) dX10_isTakenByAnother_3 rfl rfl ?_
    replace h := Option.bind_eq_some_iff.mp h; obtain ⟨r1, hr1, h⟩ := h
    refine ev_gI dX10_isTakenByAnother_4 fl_X10_72 hr1 rfl ?_
    by_cases hc : r1 ≤ v3
    · rw [if_pos hc] at h
      refine ev_icmp_ge_t (q := 38) dX10_isTakenByAnother_7 (by decide) hc ?_
      cases h
      exact ev_weak _ (mLe_none (mLe_none (mLe_none (mLe_none mLe_nil)))) (hexit _ hP)
    · rw [if_neg hc] at h
      refine ev_icmp_ge_f (q := 10) (t0 := 38) dX10_isTakenByAnother_7 (by decide) rfl hc ?_
      refine ev_iload_n (q := 11) dX10_isTakenByAnother_10 rfl rfl ?_
      refine ev_iload_n (q := 12) dX10_isTakenByAnother_11 rfl rfl ?_
      by_cases hc : v3 = v2
      · rw [if_pos hc] at h
        refine ev_icmp_eq_t (q := 32) dX10_isTakenByAnother_12 (by decide) hc ?_
        exact ev_weak _ (mLe_some (mLe_some (mLe_some (mLe_some mLe_nil)))) (e_X10_isTakenByAnother_J32 P o v1 v2 v3 w _ hk  _ h hP)
      · rw [if_neg hc] at h
        refine ev_icmp_eq_f (q := 15) (t0 := 32) dX10_isTakenByAnother_12 (by decide) rfl hc ?_
        refine ev_aload_n (q := 16) dX10_isTakenByAnother_15 rfl rfl ?_
        replace h := Option.bind_eq_some_iff.mp h; obtain ⟨r2, hr2, h⟩ := h
        refine ev_gR dX10_isTakenByAnother_16 fl_X10_32 hr2 rfl ?_
        replace h := Option.bind_eq_some_iff.mp h; obtain ⟨r3, hr3, h⟩ := h
        refine ev_gR dX10_isTakenByAnother_19 fl_X10_79 hr3 rfl ?_
        refine ev_iload_n (q := 23) dX10_isTakenByAnother_22 rfl rfl ?_
        replace h := Option.bind_eq_some_iff.mp h; obtain ⟨r4, hr4, h⟩ := h
        refine ev_invS (M1 := M_X10_at) (as := [vr r3, vi v3]) dX10_isTakenByAnother_23 rfl tw_406 cal_X10_at tw_252 (by decide) rfl rfl (Nat.le_of_ble_eq_true rfl) (met_X10_at r3 v3 w _ hr4) ?_
        refine ev_iload_n (q := 27) dX10_isTakenByAnother_26 rfl rfl ?_
        by_cases hc : r4 = v1
        · rw [if_pos hc] at h
          refine ev_icmp_ne_f (q := 30) (t0 := 32) dX10_isTakenByAnother_27 (by decide) rfl hc ?_
          refine ev_iconst (q := 31) (v := (1 : Int32)) dX10_isTakenByAnother_30 rfl (by decide) ?_
          cases h
          obtain ⟨hr1, hr2⟩ := hret _ hP
          subst hr1
          subst hr2
          exact ev_zret dX10_isTakenByAnother_31 rfl (Or.inr rfl)
        · rw [if_neg hc] at h
          refine ev_icmp_ne_t (q := 32) dX10_isTakenByAnother_27 (by decide) hc ?_
          exact ev_weak _ (mLe_some (mLe_some (mLe_some (mLe_some mLe_nil)))) (e_X10_isTakenByAnother_J32 P o v1 v2 v3 w _ hk  _ h hP)
def f_X10_isTakenByAnother (o : Nat) (v1 : Int32) (v2 : Int32) (w : mW) : Option (Int32) := Option.bind (f_X10_isTakenByAnother_L2 o v1 v2 w mFuel (0 : Int32)) fun e5 => match e5 with | .inl y7 => some y7 | .inr y6 => some ((0 : Int32))
set_option maxRecDepth 100000 in
set_option maxHeartbeats 4000000 in
theorem met_X10_isTakenByAnother (o : Nat) (v1 : Int32) (v2 : Int32) (w : mW) (res : Int32) (h : f_X10_isTakenByAnother o v1 v2 w = some res) : mMet M_X10_isTakenByAnother 1 [vr ((some o)), vi v1, vi v2] w (some (vi res)) w := by
  refine ev_met (n := 1) (by decide) rfl fun X => ?_
  unfold f_X10_isTakenByAnother at h
  show mEv X M_X10_isTakenByAnother 1 _ _ 0 [some (vr ((some o))), some (vi v1), some (vi v2), none] [] w
  refine ev_iconst (q := 1) (v := (0 : Int32)) dX10_isTakenByAnother_0 rfl (by decide) ?_
  refine ev_istore_n (q := 2) dX10_isTakenByAnother_1 rfl (by decide) ?_
  replace h := Option.bind_eq_some_iff.mp h; obtain ⟨e5, he5, h⟩ := h
  refine ev_weak _ (mLe_some (mLe_some (mLe_some (mLe_some mLe_nil)))) (e_X10_isTakenByAnother_L2 (fun z => e5 = z) o v1 v2 w (fun y7 hq => ?_) (fun y6 hq => ?_) mFuel (0 : Int32) _ he5 rfl)
  · subst hq
    dsimp only at h
    cases h
    exact ⟨rfl, rfl⟩
  · subst hq
    dsimp only at h
    refine ev_iconst (q := 39) (v := (0 : Int32)) dX10_isTakenByAnother_38 rfl (by decide) ?_
    cases h
    exact ev_zret dX10_isTakenByAnother_39 rfl (Or.inl rfl)
def f_X10_landing (o : Nat) (v1 : Int32) (v2 : Int32) (v3 : Int32) (w : mW) : Option (Int32) := Option.bind (gR w (some o) 10 3) fun r1 => Option.bind (gR w r1 2 3) fun r2 => Option.bind (f_X10_at r2 v1 w) fun r3 => Option.bind (gR w (some o) 10 3) fun r4 => Option.bind (gR w r4 2 4) fun r5 => Option.bind (f_X10_at r5 v1 w) fun r6 => Option.bind (f_X10_cellAt (((v2 / (6 : Int32)) + r3) - (2 : Int32)) ((((v2 - v2 / (6 : Int32) * (6 : Int32)) + r6) - (2 : Int32)) + v3) w) fun r7 => some (r7)
set_option maxRecDepth 100000 in
set_option maxHeartbeats 4000000 in
theorem met_X10_landing (o : Nat) (v1 : Int32) (v2 : Int32) (v3 : Int32) (w : mW) (res : Int32) (h : f_X10_landing o v1 v2 v3 w = some res) : mMet M_X10_landing 1 [vr ((some o)), vi v1, vi v2, vi v3] w (some (vi res)) w := by
  refine ev_met (n := 2) (by decide) rfl fun X => ?_
  unfold f_X10_landing at h
  show mEv X M_X10_landing 1 _ _ 0 [some (vr ((some o))), some (vi v1), some (vi v2), some (vi v3), none, none] [] w
  refine ev_iload_n (q := 1) dX10_landing_0 rfl rfl ?_
  refine ev_bipush (q := 3) (v := (6 : Int32)) dX10_landing_1 rfl (by decide) ?_
  refine ev_idiv (q := 4) dX10_landing_3 rfl (by decide) ?_
  refine ev_aload_n (q := 5) dX10_landing_4 rfl rfl ?_
  replace h := Option.bind_eq_some_iff.mp h; obtain ⟨r1, hr1, h⟩ := h
  refine ev_gR dX10_landing_5 fl_X10_32 hr1 rfl ?_
  replace h := Option.bind_eq_some_iff.mp h; obtain ⟨r2, hr2, h⟩ := h
  refine ev_gR dX10_landing_8 fl_X10_107 hr2 rfl ?_
  refine ev_iload_n (q := 12) dX10_landing_11 rfl rfl ?_
  replace h := Option.bind_eq_some_iff.mp h; obtain ⟨r3, hr3, h⟩ := h
  refine ev_invS (M1 := M_X10_at) (as := [vr r2, vi v1]) dX10_landing_12 rfl tw_406 cal_X10_at tw_252 (by decide) rfl rfl (Nat.le_of_ble_eq_true rfl) (met_X10_at r2 v1 w _ hr3) ?_
  refine ev_iadd (q := 16) dX10_landing_15 rfl ?_
  refine ev_iconst (q := 17) (v := (2 : Int32)) dX10_landing_16 rfl (by decide) ?_
  refine ev_isub (q := 18) dX10_landing_17 rfl ?_
  refine ev_istore (q := 20) dX10_landing_18 rfl (by decide) ?_
  refine ev_iload_n (q := 21) dX10_landing_20 rfl rfl ?_
  refine ev_bipush (q := 23) (v := (6 : Int32)) dX10_landing_21 rfl (by decide) ?_
  refine ev_irem (q := 24) dX10_landing_23 rfl (by decide) ?_
  refine ev_aload_n (q := 25) dX10_landing_24 rfl rfl ?_
  replace h := Option.bind_eq_some_iff.mp h; obtain ⟨r4, hr4, h⟩ := h
  refine ev_gR dX10_landing_25 fl_X10_32 hr4 rfl ?_
  replace h := Option.bind_eq_some_iff.mp h; obtain ⟨r5, hr5, h⟩ := h
  refine ev_gR dX10_landing_28 fl_X10_110 hr5 rfl ?_
  refine ev_iload_n (q := 32) dX10_landing_31 rfl rfl ?_
  replace h := Option.bind_eq_some_iff.mp h; obtain ⟨r6, hr6, h⟩ := h
  refine ev_invS (M1 := M_X10_at) (as := [vr r5, vi v1]) dX10_landing_32 rfl tw_406 cal_X10_at tw_252 (by decide) rfl rfl (Nat.le_of_ble_eq_true rfl) (met_X10_at r5 v1 w _ hr6) ?_
  refine ev_iadd (q := 36) dX10_landing_35 rfl ?_
  refine ev_iconst (q := 37) (v := (2 : Int32)) dX10_landing_36 rfl (by decide) ?_
  refine ev_isub (q := 38) dX10_landing_37 rfl ?_
  refine ev_iload_n (q := 39) dX10_landing_38 rfl rfl ?_
  refine ev_iadd (q := 40) dX10_landing_39 rfl ?_
  refine ev_istore (q := 42) dX10_landing_40 rfl (by decide) ?_
  refine ev_iload (q := 44) dX10_landing_42 rfl rfl ?_
  refine ev_iload (q := 46) dX10_landing_44 rfl rfl ?_
  replace h := Option.bind_eq_some_iff.mp h; obtain ⟨r7, hr7, h⟩ := h
  refine ev_invS (M1 := M_X10_cellAt) (as := [vi (((v2 / (6 : Int32)) + r3) - (2 : Int32)), vi ((((v2 - v2 / (6 : Int32) * (6 : Int32)) + r6) - (2 : Int32)) + v3)]) dX10_landing_46 rfl tw_469 cal_X10_cellAt tw_267 (by decide) rfl rfl (Nat.le_of_ble_eq_true rfl) (met_X10_cellAt (((v2 / (6 : Int32)) + r3) - (2 : Int32)) ((((v2 - v2 / (6 : Int32) * (6 : Int32)) + r6) - (2 : Int32)) + v3) w _ hr7) ?_
  cases h
  exact ev_iret dX10_landing_49 rfl rfl
def f_X10_stir_J11 (w : mW) : Option (Int32 × mW) := some (((-102 : Int32), w))
set_option maxRecDepth 100000 in
set_option maxHeartbeats 4000000 in
theorem e_X10_stir_J11 {X : mXs} (w : mW) (res : Int32 × mW) (h : f_X10_stir_J11 w = some res) : mEv X M_X10_stir 1 (some (vi res.1)) res.2 11 [none, none] [] w := by
  unfold f_X10_stir_J11 at h
  refine ev_bipush (q := 13) (v := (-102 : Int32)) dX10_stir_11 rfl (by decide) ?_
  cases h
  exact ev_iret dX10_stir_13 rfl rfl
def f_X10_stir (o : Nat) (v1 : Int32) (w : mW) : Option (Int32 × mW) := if v1 < (1 : Int32) then (f_X10_stir_J11 w) else (if v1 ≤ (60 : Int32) then (Option.bind (kO w (some o) 10) fun _ => Option.bind (f_X10_hasPort o  w) fun r1 => if r1 = 0 then (some (((-103 : Int32), w))) else (Option.bind (gR w (some o) 10 3) fun r3 => Option.bind (gI w r3 2 9) fun r4 => if r4 + v1 ≤ (99 : Int32) then (Option.bind (gR w (some o) 10 3) fun r5 => Option.bind (gI w r5 2 9) fun r6 => Option.bind (pI w r5 2 9 (r6 + v1)) fun w7 => Option.bind (gR w7 (some o) 10 3) fun r8 => Option.bind (gI w7 r8 2 9) fun r9 => some ((r9, w7))) else (some (((-104 : Int32), w))))) else (f_X10_stir_J11 w))
set_option maxRecDepth 100000 in
set_option maxHeartbeats 4000000 in
theorem met_X10_stir (o : Nat) (v1 : Int32) (w : mW) (res : Int32 × mW) (h : f_X10_stir o v1 w = some res) : mMet M_X10_stir 1 [vr ((some o)), vi v1] w (some (vi res.1)) res.2 := by
  refine ev_met (n := 0) (by decide) rfl fun X => ?_
  unfold f_X10_stir at h
  show mEv X M_X10_stir 1 _ _ 0 [some (vr ((some o))), some (vi v1)] [] w
  refine ev_iload_n (q := 1) dX10_stir_0 rfl rfl ?_
  refine ev_iconst (q := 2) (v := (1 : Int32)) dX10_stir_1 rfl (by decide) ?_
  by_cases hc : v1 < (1 : Int32)
  · rw [if_pos hc] at h
    refine ev_icmp_lt_t (q := 11) dX10_stir_2 (by decide) hc ?_
    exact ev_weak _ (mLe_none (mLe_none mLe_nil)) (e_X10_stir_J11 w _ h)
  · rw [if_neg hc] at h
    refine ev_icmp_lt_f (q := 5) (t0 := 11) dX10_stir_2 (by decide) rfl hc ?_
    refine ev_iload_n (q := 6) dX10_stir_5 rfl rfl ?_
    refine ev_bipush (q := 8) (v := (60 : Int32)) dX10_stir_6 rfl (by decide) ?_
    by_cases hc : v1 ≤ (60 : Int32)
    · rw [if_pos hc] at h
      refine ev_icmp_le_t (q := 14) dX10_stir_8 (by decide) hc ?_
      refine ev_aload_n (q := 15) dX10_stir_14 rfl rfl ?_
      replace h := Option.bind_eq_some_iff.mp h; obtain ⟨q2, hq2, h⟩ := h
      obtain ⟨hxq2, fsq2, hkq2⟩ := kO_spec hq2
      cases hxq2
      replace h := Option.bind_eq_some_iff.mp h; obtain ⟨r1, hr1, h⟩ := h
      refine ev_invV (M1 := M_X10_hasPort) (as := []) (fs := fsq2) (ci := 10) dX10_stir_15 rfl tw_600 cal_X10_hasPort tw_602 tw_22 (by decide) rfl rfl (Nat.le_of_ble_eq_true rfl) hkq2 rfl (met_X10_hasPort o  w _ hr1) ?_
      by_cases hc : r1 = 0
      · rw [if_pos hc] at h
        refine ev_if_ne_f (q := 21) (t0 := 24) dX10_stir_18 (by decide) rfl hc ?_
        refine ev_bipush (q := 23) (v := (-103 : Int32)) dX10_stir_21 rfl (by decide) ?_
        cases h
        exact ev_iret dX10_stir_23 rfl rfl
      · rw [if_neg hc] at h
        refine ev_if_ne_t (q := 24) dX10_stir_18 (by decide) hc ?_
        refine ev_aload_n (q := 25) dX10_stir_24 rfl rfl ?_
        replace h := Option.bind_eq_some_iff.mp h; obtain ⟨r3, hr3, h⟩ := h
        refine ev_gR dX10_stir_25 fl_X10_32 hr3 rfl ?_
        replace h := Option.bind_eq_some_iff.mp h; obtain ⟨r4, hr4, h⟩ := h
        refine ev_gI dX10_stir_28 fl_X10_159 hr4 rfl ?_
        refine ev_iload_n (q := 32) dX10_stir_31 rfl rfl ?_
        refine ev_iadd (q := 33) dX10_stir_32 rfl ?_
        refine ev_bipush (q := 35) (v := (99 : Int32)) dX10_stir_33 rfl (by decide) ?_
        by_cases hc : r4 + v1 ≤ (99 : Int32)
        · rw [if_pos hc] at h
          refine ev_icmp_le_t (q := 41) dX10_stir_35 (by decide) hc ?_
          refine ev_aload_n (q := 42) dX10_stir_41 rfl rfl ?_
          replace h := Option.bind_eq_some_iff.mp h; obtain ⟨r5, hr5, h⟩ := h
          refine ev_gR dX10_stir_42 fl_X10_32 hr5 rfl ?_
          refine ev_dup (q := 46) dX10_stir_45 rfl rfl ?_
          replace h := Option.bind_eq_some_iff.mp h; obtain ⟨r6, hr6, h⟩ := h
          refine ev_gI dX10_stir_46 fl_X10_159 hr6 rfl ?_
          refine ev_iload_n (q := 50) dX10_stir_49 rfl rfl ?_
          refine ev_iadd (q := 51) dX10_stir_50 rfl ?_
          replace h := Option.bind_eq_some_iff.mp h; obtain ⟨w7, hw7, h⟩ := h
          refine ev_pI dX10_stir_51 fp_X10_159 hw7 rfl ?_
          refine ev_aload_n (q := 55) dX10_stir_54 rfl rfl ?_
          replace h := Option.bind_eq_some_iff.mp h; obtain ⟨r8, hr8, h⟩ := h
          refine ev_gR dX10_stir_55 fl_X10_32 hr8 rfl ?_
          replace h := Option.bind_eq_some_iff.mp h; obtain ⟨r9, hr9, h⟩ := h
          refine ev_gI dX10_stir_58 fl_X10_159 hr9 rfl ?_
          cases h
          exact ev_iret dX10_stir_61 rfl rfl
        · rw [if_neg hc] at h
          refine ev_icmp_le_f (q := 38) (t0 := 41) dX10_stir_35 (by decide) rfl hc ?_
          refine ev_bipush (q := 40) (v := (-104 : Int32)) dX10_stir_38 rfl (by decide) ?_
          cases h
          exact ev_iret dX10_stir_40 rfl rfl
    · rw [if_neg hc] at h
      refine ev_icmp_le_f (q := 11) (t0 := 14) dX10_stir_8 (by decide) rfl hc ?_
      exact ev_weak _ (mLe_none (mLe_none mLe_nil)) (e_X10_stir_J11 w _ h)
def f_X10_train_J25 (w : mW) : Option (Int32 × mW) := some (((-102 : Int32), w))
set_option maxRecDepth 100000 in
set_option maxHeartbeats 4000000 in
theorem e_X10_train_J25 {X : mXs} (w : mW) (res : Int32 × mW) (h : f_X10_train_J25 w = some res) : mEv X M_X10_train 1 (some (vi res.1)) res.2 25 [none, none, none, none, none] [] w := by
  unfold f_X10_train_J25 at h
  refine ev_bipush (q := 27) (v := (-102 : Int32)) dX10_train_25 rfl (by decide) ?_
  cases h
  exact ev_iret dX10_train_27 rfl rfl
def f_X10_train (o : Nat) (v1 : Int32) (v2 : Int32) (v3 : Int32) (w : mW) : Option (Int32 × mW) := Option.bind (kO w (some o) 10) fun _ => Option.bind (f_X10_tosserAt o v1 w) fun r1 => oC r1 (some (((-101 : Int32), w))) (fun a3 => Option.bind (f_X10_isTurn v2 w) fun r4 => if r4 = 0 then (f_X10_train_J25 w) else (Option.bind (f_X10_isTurn v3 w) fun r5 => if r5 = 0 then (f_X10_train_J25 w) else (Option.bind (gR w (some o) 10 3) fun r6 => Option.bind (gR w r6 2 4) fun r7 => Option.bind (f_X10_at r7 v1 w) fun r8 => Option.bind (gR w (some o) 10 3) fun r9 => Option.bind (gR w r9 2 3) fun r10 => Option.bind (f_X10_put r10 v1 v2 w) fun w11 => Option.bind (gR w11 (some o) 10 3) fun r12 => Option.bind (gR w11 r12 2 4) fun r13 => Option.bind (f_X10_put r13 v1 v3 w11) fun w14 => some ((r8, w14)))))
set_option maxRecDepth 100000 in
set_option maxHeartbeats 4000000 in
theorem met_X10_train (o : Nat) (v1 : Int32) (v2 : Int32) (v3 : Int32) (w : mW) (res : Int32 × mW) (h : f_X10_train o v1 v2 v3 w = some res) : mMet M_X10_train 1 [vr ((some o)), vi v1, vi v2, vi v3] w (some (vi res.1)) res.2 := by
  refine ev_met (n := 1) (by decide) rfl fun X => ?_
  unfold f_X10_train at h
  show mEv X M_X10_train 1 _ _ 0 [some (vr ((some o))), some (vi v1), some (vi v2), some (vi v3), none] [] w
  refine ev_aload_n (q := 1) dX10_train_0 rfl rfl ?_
  refine ev_iload_n (q := 2) dX10_train_1 rfl rfl ?_
  replace h := Option.bind_eq_some_iff.mp h; obtain ⟨q2, hq2, h⟩ := h
  obtain ⟨hxq2, fsq2, hkq2⟩ := kO_spec hq2
  cases hxq2
  replace h := Option.bind_eq_some_iff.mp h; obtain ⟨r1, hr1, h⟩ := h
  refine ev_invV (M1 := M_X10_tosserAt) (as := [vi v1]) (fs := fsq2) (ci := 10) dX10_train_2 rfl tw_461 cal_X10_tosserAt tw_463 tw_12 (by decide) rfl rfl (Nat.le_of_ble_eq_true rfl) hkq2 rfl (met_X10_tosserAt o v1 w _ hr1) ?_
  rcases r1 with _ | a3
  · dsimp only [oC] at h
    refine ev_ifnonnull_f (q := 8) dX10_train_5 rfl ?_
    refine ev_bipush (q := 10) (v := (-101 : Int32)) dX10_train_8 rfl (by decide) ?_
    cases h
    exact ev_iret dX10_train_10 rfl rfl
  · dsimp only [oC] at h
    refine ev_ifnonnull_t (q := 11) dX10_train_5 (by decide) ?_
    refine ev_iload_n (q := 12) dX10_train_11 rfl rfl ?_
    replace h := Option.bind_eq_some_iff.mp h; obtain ⟨r4, hr4, h⟩ := h
    refine ev_invS (M1 := M_X10_isTurn) (as := [vi v2]) dX10_train_12 rfl tw_624 cal_X10_isTurn tw_372 (by decide) rfl rfl (Nat.le_of_ble_eq_true rfl) (met_X10_isTurn v2 w _ hr4) ?_
    by_cases hc : r4 = 0
    · rw [if_pos hc] at h
      refine ev_if_eq_t (q := 25) dX10_train_15 (by decide) hc ?_
      exact ev_weak _ (mLe_none (mLe_none (mLe_none (mLe_none (mLe_none mLe_nil))))) (e_X10_train_J25 w _ h)
    · rw [if_neg hc] at h
      refine ev_if_eq_f (q := 18) (t0 := 25) dX10_train_15 (by decide) rfl hc ?_
      refine ev_iload_n (q := 19) dX10_train_18 rfl rfl ?_
      replace h := Option.bind_eq_some_iff.mp h; obtain ⟨r5, hr5, h⟩ := h
      refine ev_invS (M1 := M_X10_isTurn) (as := [vi v3]) dX10_train_19 rfl tw_624 cal_X10_isTurn tw_372 (by decide) rfl rfl (Nat.le_of_ble_eq_true rfl) (met_X10_isTurn v3 w _ hr5) ?_
      by_cases hc : r5 = 0
      · rw [if_pos hc] at h
        refine ev_if_ne_f (q := 25) (t0 := 28) dX10_train_22 (by decide) rfl hc ?_
        exact ev_weak _ (mLe_none (mLe_none (mLe_none (mLe_none (mLe_none mLe_nil))))) (e_X10_train_J25 w _ h)
      · rw [if_neg hc] at h
        refine ev_if_ne_t (q := 28) dX10_train_22 (by decide) hc ?_
        refine ev_aload_n (q := 29) dX10_train_28 rfl rfl ?_
        replace h := Option.bind_eq_some_iff.mp h; obtain ⟨r6, hr6, h⟩ := h
        refine ev_gR dX10_train_29 fl_X10_32 hr6 rfl ?_
        replace h := Option.bind_eq_some_iff.mp h; obtain ⟨r7, hr7, h⟩ := h
        refine ev_gR dX10_train_32 fl_X10_110 hr7 rfl ?_
        refine ev_iload_n (q := 36) dX10_train_35 rfl rfl ?_
        replace h := Option.bind_eq_some_iff.mp h; obtain ⟨r8, hr8, h⟩ := h
        refine ev_invS (M1 := M_X10_at) (as := [vr r7, vi v1]) dX10_train_36 rfl tw_406 cal_X10_at tw_252 (by decide) rfl rfl (Nat.le_of_ble_eq_true rfl) (met_X10_at r7 v1 w _ hr8) ?_
        refine ev_istore (q := 41) dX10_train_39 rfl (by decide) ?_
        refine ev_aload_n (q := 42) dX10_train_41 rfl rfl ?_
        replace h := Option.bind_eq_some_iff.mp h; obtain ⟨r9, hr9, h⟩ := h
        refine ev_gR dX10_train_42 fl_X10_32 hr9 rfl ?_
        replace h := Option.bind_eq_some_iff.mp h; obtain ⟨r10, hr10, h⟩ := h
        refine ev_gR dX10_train_45 fl_X10_107 hr10 rfl ?_
        refine ev_iload_n (q := 49) dX10_train_48 rfl rfl ?_
        refine ev_iload_n (q := 50) dX10_train_49 rfl rfl ?_
        replace h := Option.bind_eq_some_iff.mp h; obtain ⟨w11, hw11, h⟩ := h
        refine ev_invS (M1 := M_X10_put) (as := [vr r10, vi v1, vi v2]) dX10_train_50 rfl tw_402 cal_X10_put tw_270 (by decide) rfl rfl (Nat.le_of_ble_eq_true rfl) (met_X10_put r10 v1 v2 w _ hw11) ?_
        refine ev_aload_n (q := 54) dX10_train_53 rfl rfl ?_
        replace h := Option.bind_eq_some_iff.mp h; obtain ⟨r12, hr12, h⟩ := h
        refine ev_gR dX10_train_54 fl_X10_32 hr12 rfl ?_
        replace h := Option.bind_eq_some_iff.mp h; obtain ⟨r13, hr13, h⟩ := h
        refine ev_gR dX10_train_57 fl_X10_110 hr13 rfl ?_
        refine ev_iload_n (q := 61) dX10_train_60 rfl rfl ?_
        refine ev_iload_n (q := 62) dX10_train_61 rfl rfl ?_
        replace h := Option.bind_eq_some_iff.mp h; obtain ⟨w14, hw14, h⟩ := h
        refine ev_invS (M1 := M_X10_put) (as := [vr r13, vi v1, vi v3]) dX10_train_62 rfl tw_402 cal_X10_put tw_270 (by decide) rfl rfl (Nat.le_of_ble_eq_true rfl) (met_X10_put r13 v1 v3 w11 _ hw14) ?_
        refine ev_iload (q := 67) dX10_train_65 rfl rfl ?_
        cases h
        exact ev_iret dX10_train_67 rfl rfl
def f_X10_wind_J10 (w : mW) : Option (Int32 × mW) := some (((-102 : Int32), w))
set_option maxRecDepth 100000 in
set_option maxHeartbeats 4000000 in
theorem e_X10_wind_J10 {X : mXs} (w : mW) (res : Int32 × mW) (h : f_X10_wind_J10 w = some res) : mEv X M_X10_wind 1 (some (vi res.1)) res.2 10 [none, none, none] [] w := by
  unfold f_X10_wind_J10 at h
  refine ev_bipush (q := 12) (v := (-102 : Int32)) dX10_wind_10 rfl (by decide) ?_
  cases h
  exact ev_iret dX10_wind_12 rfl rfl
def f_X10_wind (o : Nat) (v1 : Int32) (w : mW) : Option (Int32 × mW) := if v1 < (-1 : Int32) then (f_X10_wind_J10 w) else (if v1 ≤ (1 : Int32) then (Option.bind (kO w (some o) 10) fun _ => Option.bind (f_X10_hasPort o  w) fun r1 => if r1 = 0 then (some (((-103 : Int32), w))) else (Option.bind (gR w (some o) 10 3) fun r3 => Option.bind (gI w r3 2 8) fun r4 => Option.bind (gR w (some o) 10 3) fun r5 => Option.bind (pI w r5 2 8 v1) fun w6 => some ((r4 + (1 : Int32), w6)))) else (f_X10_wind_J10 w))
set_option maxRecDepth 100000 in
set_option maxHeartbeats 4000000 in
theorem met_X10_wind (o : Nat) (v1 : Int32) (w : mW) (res : Int32 × mW) (h : f_X10_wind o v1 w = some res) : mMet M_X10_wind 1 [vr ((some o)), vi v1] w (some (vi res.1)) res.2 := by
  refine ev_met (n := 1) (by decide) rfl fun X => ?_
  unfold f_X10_wind at h
  show mEv X M_X10_wind 1 _ _ 0 [some (vr ((some o))), some (vi v1), none] [] w
  refine ev_iload_n (q := 1) dX10_wind_0 rfl rfl ?_
  refine ev_iconst (q := 2) (v := (-1 : Int32)) dX10_wind_1 rfl (by decide) ?_
  by_cases hc : v1 < (-1 : Int32)
  · rw [if_pos hc] at h
    refine ev_icmp_lt_t (q := 10) dX10_wind_2 (by decide) hc ?_
    exact ev_weak _ (mLe_none (mLe_none (mLe_none mLe_nil))) (e_X10_wind_J10 w _ h)
  · rw [if_neg hc] at h
    refine ev_icmp_lt_f (q := 5) (t0 := 10) dX10_wind_2 (by decide) rfl hc ?_
    refine ev_iload_n (q := 6) dX10_wind_5 rfl rfl ?_
    refine ev_iconst (q := 7) (v := (1 : Int32)) dX10_wind_6 rfl (by decide) ?_
    by_cases hc : v1 ≤ (1 : Int32)
    · rw [if_pos hc] at h
      refine ev_icmp_le_t (q := 13) dX10_wind_7 (by decide) hc ?_
      refine ev_aload_n (q := 14) dX10_wind_13 rfl rfl ?_
      replace h := Option.bind_eq_some_iff.mp h; obtain ⟨q2, hq2, h⟩ := h
      obtain ⟨hxq2, fsq2, hkq2⟩ := kO_spec hq2
      cases hxq2
      replace h := Option.bind_eq_some_iff.mp h; obtain ⟨r1, hr1, h⟩ := h
      refine ev_invV (M1 := M_X10_hasPort) (as := []) (fs := fsq2) (ci := 10) dX10_wind_14 rfl tw_600 cal_X10_hasPort tw_602 tw_22 (by decide) rfl rfl (Nat.le_of_ble_eq_true rfl) hkq2 rfl (met_X10_hasPort o  w _ hr1) ?_
      by_cases hc : r1 = 0
      · rw [if_pos hc] at h
        refine ev_if_ne_f (q := 20) (t0 := 23) dX10_wind_17 (by decide) rfl hc ?_
        refine ev_bipush (q := 22) (v := (-103 : Int32)) dX10_wind_20 rfl (by decide) ?_
        cases h
        exact ev_iret dX10_wind_22 rfl rfl
      · rw [if_neg hc] at h
        refine ev_if_ne_t (q := 23) dX10_wind_17 (by decide) hc ?_
        refine ev_aload_n (q := 24) dX10_wind_23 rfl rfl ?_
        replace h := Option.bind_eq_some_iff.mp h; obtain ⟨r3, hr3, h⟩ := h
        refine ev_gR dX10_wind_24 fl_X10_32 hr3 rfl ?_
        replace h := Option.bind_eq_some_iff.mp h; obtain ⟨r4, hr4, h⟩ := h
        refine ev_gI dX10_wind_27 fl_X10_146 hr4 rfl ?_
        refine ev_iconst (q := 31) (v := (1 : Int32)) dX10_wind_30 rfl (by decide) ?_
        refine ev_iadd (q := 32) dX10_wind_31 rfl ?_
        refine ev_istore_n (q := 33) dX10_wind_32 rfl (by decide) ?_
        refine ev_aload_n (q := 34) dX10_wind_33 rfl rfl ?_
        replace h := Option.bind_eq_some_iff.mp h; obtain ⟨r5, hr5, h⟩ := h
        refine ev_gR dX10_wind_34 fl_X10_32 hr5 rfl ?_
        refine ev_iload_n (q := 38) dX10_wind_37 rfl rfl ?_
        replace h := Option.bind_eq_some_iff.mp h; obtain ⟨w6, hw6, h⟩ := h
        refine ev_pI dX10_wind_38 fp_X10_146 hw6 rfl ?_
        refine ev_iload_n (q := 42) dX10_wind_41 rfl rfl ?_
        cases h
        exact ev_iret dX10_wind_42 rfl rfl
    · rw [if_neg hc] at h
      refine ev_icmp_le_f (q := 10) (t0 := 13) dX10_wind_7 (by decide) rfl hc ?_
      exact ev_weak _ (mLe_none (mLe_none (mLe_none mLe_nil))) (e_X10_wind_J10 w _ h)
def f_X0_spreads_J24 (s0 : Int32) (w : mW) : Option (Int32) := if s0 = 0 ∨ s0 = 1 then some (s0) else none
set_option maxRecDepth 100000 in
set_option maxHeartbeats 4000000 in
theorem e_X0_spreads_J24 {X : mXs} (s0 : Int32) (w : mW) (res : Int32) (h : f_X0_spreads_J24 s0 w = some res) : mEv X M_X0_spreads 1 (some (vi res)) w 24 [none, none, none] [vi s0] w := by
  unfold f_X0_spreads_J24 at h
  by_cases hz : s0 = 0 ∨ s0 = 1
  · rw [if_pos hz] at h
    cases h
    exact ev_zret dX0_spreads_24 rfl hz
  · rw [if_neg hz] at h
    cases h
def f_X0_spreads_J23 (w : mW) : Option (Int32) := f_X0_spreads_J24 (0 : Int32) w
set_option maxRecDepth 100000 in
set_option maxHeartbeats 4000000 in
theorem e_X0_spreads_J23 {X : mXs} (w : mW) (res : Int32) (h : f_X0_spreads_J23 w = some res) : mEv X M_X0_spreads 1 (some (vi res)) w 23 [none, none, none] [] w := by
  unfold f_X0_spreads_J23 at h
  refine ev_iconst (q := 24) (v := (0 : Int32)) dX0_spreads_23 rfl (by decide) ?_
  exact ev_weak _ (mLe_none (mLe_none (mLe_none mLe_nil))) (e_X0_spreads_J24 (0 : Int32) w _ h)
def f_X0_spreads (o : Nat) (v1 : Int32) (v2 : Int32) (w : mW) : Option (Int32) := if (1 : Int32) < (if 0 ≤ v1 then v1 else 0 - v1) then (f_X0_spreads_J23 w) else (if (if 0 ≤ v1 then v1 else 0 - v1) = (if 0 ≤ v2 then v2 else 0 - v2) then (f_X0_spreads_J24 (1 : Int32) w) else (f_X0_spreads_J23 w))
set_option maxRecDepth 100000 in
set_option maxHeartbeats 4000000 in
theorem met_X0_spreads (o : Nat) (v1 : Int32) (v2 : Int32) (w : mW) (res : Int32) (h : f_X0_spreads o v1 v2 w = some res) : mMet M_X0_spreads 1 [vr ((some o)), vi v1, vi v2] w (some (vi res)) w := by
  refine ev_met (n := 0) (by decide) rfl fun X => ?_
  unfold f_X0_spreads at h
  show mEv X M_X0_spreads 1 _ _ 0 [some (vr ((some o))), some (vi v1), some (vi v2)] [] w
  refine ev_iload_n (q := 1) dX0_spreads_0 rfl rfl ?_
  refine ev_mabs (q := 4) dX0_spreads_1 rfl tw_481 tw_482 tw_mathi tw_483 (by decide) (Nat.le_of_ble_eq_true rfl) ?_
  refine ev_iconst (q := 5) (v := (1 : Int32)) dX0_spreads_4 rfl (by decide) ?_
  by_cases hc : (1 : Int32) < (if 0 ≤ v1 then v1 else 0 - v1)
  · rw [if_pos hc] at h
    refine ev_icmp_gt_t (q := 23) dX0_spreads_5 (by decide) hc ?_
    exact ev_weak _ (mLe_none (mLe_none (mLe_none mLe_nil))) (e_X0_spreads_J23 w _ h)
  · rw [if_neg hc] at h
    refine ev_icmp_gt_f (q := 8) (t0 := 23) dX0_spreads_5 (by decide) rfl hc ?_
    refine ev_iload_n (q := 9) dX0_spreads_8 rfl rfl ?_
    refine ev_mabs (q := 12) dX0_spreads_9 rfl tw_481 tw_482 tw_mathi tw_483 (by decide) (Nat.le_of_ble_eq_true rfl) ?_
    refine ev_iload_n (q := 13) dX0_spreads_12 rfl rfl ?_
    refine ev_mabs (q := 16) dX0_spreads_13 rfl tw_481 tw_482 tw_mathi tw_483 (by decide) (Nat.le_of_ble_eq_true rfl) ?_
    by_cases hc : (if 0 ≤ v1 then v1 else 0 - v1) = (if 0 ≤ v2 then v2 else 0 - v2)
    · rw [if_pos hc] at h
      refine ev_icmp_ne_f (q := 19) (t0 := 23) dX0_spreads_16 (by decide) rfl hc ?_
      refine ev_iconst (q := 20) (v := (1 : Int32)) dX0_spreads_19 rfl (by decide) ?_
      refine ev_goto (q := 24) dX0_spreads_20 (by decide) ?_
      exact ev_weak _ (mLe_none (mLe_none (mLe_none mLe_nil))) (e_X0_spreads_J24 (1 : Int32) w _ h)
    · rw [if_neg hc] at h
      refine ev_icmp_ne_t (q := 23) dX0_spreads_16 (by decide) hc ?_
      exact ev_weak _ (mLe_none (mLe_none (mLe_none mLe_nil))) (e_X0_spreads_J23 w _ h)
def f_X2_wake_J30 (kc : Int32 → mW → Option (mW)) (o : Nat) (v1 : Int32) (v2 : Int32) (s0 : Option Nat) (w : mW) : Option (mW) := Option.bind (f_X10_at s0 v2 w) fun r1 => Option.bind (f_X10_put s0 v2 (r1 + (1 : Int32)) w) fun w2 => kc (v2 + (1 : Int32)) w2
set_option maxRecDepth 100000 in
set_option maxHeartbeats 4000000 in
theorem e_X2_wake_J30 {X : mXs} {r : Option mV} {w' : mW} (P : (mW) → Prop) (o : Nat) (v1 : Int32) (v2 : Int32) (s0 : Option Nat) (w : mW) (kc : Int32 → mW → Option (mW)) (hk : ∀ (u2 : Int32) (uw : mW) (e : mW), kc u2 uw = some e → P e → mEv X M_X2_wake 1 r w' 2 [some (vr ((some o))), some (vi v1), some (vi u2), none] [] uw) (e : mW) (h : f_X2_wake_J30 kc o v1 v2 s0 w = some e) (hP : P e) : mEv X M_X2_wake 1 r w' 30 [some (vr ((some o))), some (vi v1), some (vi v2), none] [vr s0] w := by
  unfold f_X2_wake_J30 at h
  refine ev_astore_n (q := 31) dX2_wake_30 rfl (by decide) ?_
  refine ev_aload_n (q := 32) dX2_wake_31 rfl rfl ?_
  refine ev_iload_n (q := 33) dX2_wake_32 rfl rfl ?_
  refine ev_aload_n (q := 34) dX2_wake_33 rfl rfl ?_
  refine ev_iload_n (q := 35) dX2_wake_34 rfl rfl ?_
  replace h := Option.bind_eq_some_iff.mp h; obtain ⟨r1, hr1, h⟩ := h
  refine ev_invSN (M1 := M_X10_at) (as := [vr s0, vi v2]) dX2_wake_35 rfl tw_719 cal_X10_at tw_252 (by decide) rfl rfl (Nat.le_of_ble_eq_true rfl) (met_X10_at s0 v2 w _ hr1) ?_
  refine ev_iconst (q := 39) (v := (1 : Int32)) dX2_wake_38 rfl (by decide) ?_
  refine ev_iadd (q := 40) dX2_wake_39 rfl ?_
  replace h := Option.bind_eq_some_iff.mp h; obtain ⟨w2, hw2, h⟩ := h
  refine ev_invSN (M1 := M_X10_put) (as := [vr s0, vi v2, vi (r1 + (1 : Int32))]) dX2_wake_40 rfl tw_720 cal_X10_put tw_270 (by decide) rfl rfl (Nat.le_of_ble_eq_true rfl) (met_X10_put s0 v2 (r1 + (1 : Int32)) w _ hw2) ?_
  refine ev_iinc (q := 46) (v := v2 + (1 : Int32)) dX2_wake_43 rfl (by decide) rfl (by rfl) ?_
  refine ev_goto (q := 2) dX2_wake_46 (by decide) ?_
  exact ev_weak _ (mLe_some (mLe_some (mLe_some (mLe_none mLe_nil)))) (hk (v2 + (1 : Int32)) w2 _ h hP)
def f_X2_wake_L2 (o : Nat) (v1 : Int32) : Nat → Int32 → mW → Option (mW)
  | 0, _, _ => none
  | n + 1, v2, w => if v1 ≤ v2 then (some (w)) else (Option.bind (gI w (some o) 2 7) fun r3 => if (r3 >>> (v2 &&& 31)) &&& (1 : Int32) = (1 : Int32) then (Option.bind (gR w (some o) 2 1) fun r5 => f_X2_wake_J30 (f_X2_wake_L2 o v1 n) o v1 v2 r5 w) else (Option.bind (gR w (some o) 2 2) fun r4 => f_X2_wake_J30 (f_X2_wake_L2 o v1 n) o v1 v2 r4 w))
set_option maxRecDepth 100000 in
set_option maxHeartbeats 4000000 in
theorem e_X2_wake_L2 {X : mXs} {r : Option mV} {w' : mW} (P : (mW) → Prop) (o : Nat) (v1 : Int32) (hexit : ∀ y, P y → mEv X M_X2_wake 1 r w' 49 [some (vr ((some o))), none, none, none] [] y) : ∀ (n : Nat) (v2 : Int32) (w : mW) (e : mW), f_X2_wake_L2 o v1 n v2 w = some e → P e → mEv X M_X2_wake 1 r w' 2 [some (vr ((some o))), some (vi v1), some (vi v2), none] [] w := by
  intro n
  induction n with
  | zero =>
    intro v2 w e h hP
    rw [f_X2_wake_L2] at h
    cases h
  | succ n hk =>
    intro v2 w e h hP
    rw [f_X2_wake_L2] at h
    refine ev_iload_n (q := 3) dX2_wake_2 rfl rfl ?_
    refine ev_iload_n (q := 4) dX2_wake_3 rfl rfl ?_
    by_cases hc : v1 ≤ v2
    · rw [if_pos hc] at h
      refine ev_icmp_ge_t (q := 49) dX2_wake_4 (by decide) hc ?_
      cases h
      exact ev_weak _ (mLe_some (mLe_none (mLe_none (mLe_none mLe_nil)))) (hexit _ hP)
    · rw [if_neg hc] at h
      refine ev_icmp_ge_f (q := 7) (t0 := 49) dX2_wake_4 (by decide) rfl hc ?_
      refine ev_aload_n (q := 8) dX2_wake_7 rfl rfl ?_
      replace h := Option.bind_eq_some_iff.mp h; obtain ⟨r3, hr3, h⟩ := h
      refine ev_gI dX2_wake_8 fl_X2_54 hr3 rfl ?_
      refine ev_iload_n (q := 12) dX2_wake_11 rfl rfl ?_
      refine ev_ishr (q := 13) dX2_wake_12 rfl ?_
      refine ev_iconst (q := 14) (v := (1 : Int32)) dX2_wake_13 rfl (by decide) ?_
      refine ev_iand (q := 15) dX2_wake_14 rfl ?_
      refine ev_iconst (q := 16) (v := (1 : Int32)) dX2_wake_15 rfl (by decide) ?_
      by_cases hc : (r3 >>> (v2 &&& 31)) &&& (1 : Int32) = (1 : Int32)
      · rw [if_pos hc] at h
        refine ev_icmp_ne_f (q := 19) (t0 := 26) dX2_wake_16 (by decide) rfl hc ?_
        refine ev_aload_n (q := 20) dX2_wake_19 rfl rfl ?_
        replace h := Option.bind_eq_some_iff.mp h; obtain ⟨r5, hr5, h⟩ := h
        refine ev_gR dX2_wake_20 fl_X2_15 hr5 rfl ?_
        refine ev_goto (q := 30) dX2_wake_23 (by decide) ?_
        exact ev_weak _ (mLe_some (mLe_some (mLe_some (mLe_none mLe_nil)))) (e_X2_wake_J30 P o v1 v2 r5 w _ hk  _ h hP)
      · rw [if_neg hc] at h
        refine ev_icmp_ne_t (q := 26) dX2_wake_16 (by decide) hc ?_
        refine ev_aload_n (q := 27) dX2_wake_26 rfl rfl ?_
        replace h := Option.bind_eq_some_iff.mp h; obtain ⟨r4, hr4, h⟩ := h
        refine ev_gR dX2_wake_27 fl_X2_18 hr4 rfl ?_
        exact ev_weak _ (mLe_some (mLe_some (mLe_some (mLe_none mLe_nil)))) (e_X2_wake_J30 P o v1 v2 r4 w _ hk  _ h hP)
def f_X2_wake (o : Nat) (v1 : Int32) (w : mW) : Option (mW) := Option.bind (f_X2_wake_L2 o v1 mFuel (0 : Int32) w) fun e6 => Option.bind (pI e6 (some o) 2 7 (0 : Int32)) fun w7 => Option.bind (gI w7 (some o) 2 10) fun r8 => Option.bind (pI w7 (some o) 2 10 (r8 + (1 : Int32))) fun w9 => some (w9)
set_option maxRecDepth 100000 in
set_option maxHeartbeats 4000000 in
theorem met_X2_wake (o : Nat) (v1 : Int32) (w : mW) (res : mW) (h : f_X2_wake o v1 w = some res) : mMet M_X2_wake 1 [vr ((some o)), vi v1] w none res := by
  refine ev_met (n := 2) (by decide) rfl fun X => ?_
  unfold f_X2_wake at h
  show mEv X M_X2_wake 1 _ _ 0 [some (vr ((some o))), some (vi v1), none, none] [] w
  refine ev_iconst (q := 1) (v := (0 : Int32)) dX2_wake_0 rfl (by decide) ?_
  refine ev_istore_n (q := 2) dX2_wake_1 rfl (by decide) ?_
  replace h := Option.bind_eq_some_iff.mp h; obtain ⟨e6, he6, h⟩ := h
  refine ev_weak _ (mLe_some (mLe_some (mLe_some (mLe_none mLe_nil)))) (e_X2_wake_L2 (fun z => e6 = z) o v1 (fun e6q hq => ?_) mFuel (0 : Int32) w _ he6 rfl)
  subst hq
  refine ev_aload_n (q := 50) dX2_wake_49 rfl rfl ?_
  refine ev_iconst (q := 51) (v := (0 : Int32)) dX2_wake_50 rfl (by decide) ?_
  replace h := Option.bind_eq_some_iff.mp h; obtain ⟨w7, hw7, h⟩ := h
  refine ev_pI dX2_wake_51 fp_X2_54 hw7 rfl ?_
  refine ev_aload_n (q := 55) dX2_wake_54 rfl rfl ?_
  refine ev_dup (q := 56) dX2_wake_55 rfl rfl ?_
  replace h := Option.bind_eq_some_iff.mp h; obtain ⟨r8, hr8, h⟩ := h
  refine ev_gI dX2_wake_56 fl_X2_63 hr8 rfl ?_
  refine ev_iconst (q := 60) (v := (1 : Int32)) dX2_wake_59 rfl (by decide) ?_
  refine ev_iadd (q := 61) dX2_wake_60 rfl ?_
  replace h := Option.bind_eq_some_iff.mp h; obtain ⟨w9, hw9, h⟩ := h
  refine ev_pI dX2_wake_61 fp_X2_63 hw9 rfl ?_
  cases h
  exact ev_vret dX2_wake_64 rfl
def f_X3_init (o : Nat) (w : mW) : Option (mW) := Option.bind (some (w ++ [.inr (.inl (36, fun _ => 0))])) fun w1 => Option.bind (pR w1 (some o) 3 0 (some w.length)) fun w2 => some (w2)
set_option maxRecDepth 100000 in
set_option maxHeartbeats 4000000 in
theorem met_X3_init (o : Nat) (w : mW) (res : mW) (h : f_X3_init o w = some res) : mMet M_X3_init 1 [vr ((some o))] w none res := by
  refine ev_met (n := 0) (by decide) rfl fun X => ?_
  unfold f_X3_init at h
  show mEv X M_X3_init 1 _ _ 0 [some (vr ((some o)))] [] w
  refine ev_aload_n (q := 1) dX3_init_0 rfl rfl ?_
  refine ev_obj (q := 4) dX3_init_1 rfl tw_56 tw_obji tw_objc (by decide) (Nat.le_of_ble_eq_true rfl) ?_
  refine ev_aload_n (q := 5) dX3_init_4 rfl rfl ?_
  refine ev_bipush (q := 7) (v := (36 : Int32)) dX3_init_5 rfl (by decide) ?_
  replace h := Option.bind_eq_some_iff.mp h; obtain ⟨w1, hw1, h⟩ := h
  cases hw1
  refine ev_newi (N := 36) dX3_init_7 rfl tw_67 (by decide) (by decide) (by decide) ?_
  replace h := Option.bind_eq_some_iff.mp h; obtain ⟨w2, hw2, h⟩ := h
  refine ev_pRF dX3_init_9 rfl mFit_a fp_X3_9 hw2 rfl ?_
  cases h
  exact ev_vret dX3_init_12 rfl
def f_X3_append (o : Nat) (v1 : Int32) (w : mW) : Option (mW) := Option.bind (gR w (some o) 3 0) fun r1 => Option.bind (gI w (some o) 3 1) fun r2 => Option.bind (f_X10_put r1 r2 v1 w) fun w3 => Option.bind (gI w3 (some o) 3 1) fun r4 => Option.bind (pI w3 (some o) 3 1 (r4 + (1 : Int32))) fun w5 => some (w5)
set_option maxRecDepth 100000 in
set_option maxHeartbeats 4000000 in
theorem met_X3_append (o : Nat) (v1 : Int32) (w : mW) (res : mW) (h : f_X3_append o v1 w = some res) : mMet M_X3_append 1 [vr ((some o)), vi v1] w none res := by
  refine ev_met (n := 0) (by decide) rfl fun X => ?_
  unfold f_X3_append at h
  show mEv X M_X3_append 1 _ _ 0 [some (vr ((some o))), some (vi v1)] [] w
  refine ev_aload_n (q := 1) dX3_append_0 rfl rfl ?_
  replace h := Option.bind_eq_some_iff.mp h; obtain ⟨r1, hr1, h⟩ := h
  refine ev_gR dX3_append_1 fl_X3_9 hr1 rfl ?_
  refine ev_aload_n (q := 5) dX3_append_4 rfl rfl ?_
  replace h := Option.bind_eq_some_iff.mp h; obtain ⟨r2, hr2, h⟩ := h
  refine ev_gI dX3_append_5 fl_X3_15 hr2 rfl ?_
  refine ev_iload_n (q := 9) dX3_append_8 rfl rfl ?_
  replace h := Option.bind_eq_some_iff.mp h; obtain ⟨w3, hw3, h⟩ := h
  refine ev_invSN (M1 := M_X10_put) (as := [vr r1, vi r2, vi v1]) dX3_append_9 rfl tw_676 cal_X10_put tw_270 (by decide) rfl rfl (Nat.le_of_ble_eq_true rfl) (met_X10_put r1 r2 v1 w _ hw3) ?_
  refine ev_aload_n (q := 13) dX3_append_12 rfl rfl ?_
  refine ev_dup (q := 14) dX3_append_13 rfl rfl ?_
  replace h := Option.bind_eq_some_iff.mp h; obtain ⟨r4, hr4, h⟩ := h
  refine ev_gI dX3_append_14 fl_X3_15 hr4 rfl ?_
  refine ev_iconst (q := 18) (v := (1 : Int32)) dX3_append_17 rfl (by decide) ?_
  refine ev_iadd (q := 19) dX3_append_18 rfl ?_
  replace h := Option.bind_eq_some_iff.mp h; obtain ⟨w5, hw5, h⟩ := h
  refine ev_pI dX3_append_19 fp_X3_15 hw5 rfl ?_
  cases h
  exact ev_vret dX3_append_22 rfl
def f_X4_init (o : Nat) (w : mW) : Option (mW) := Option.bind (some (w ++ [.inr (.inl (144, fun _ => 0))])) fun w1 => Option.bind (pR w1 (some o) 4 0 (some w.length)) fun w2 => Option.bind (some (w2 ++ [.inr (.inl (144, fun _ => 0))])) fun w3 => Option.bind (pR w3 (some o) 4 1 (some w2.length)) fun w4 => Option.bind (some (w4 ++ [.inr (.inl (64, fun _ => 0))])) fun w5 => Option.bind (pR w5 (some o) 4 2 (some w4.length)) fun w6 => Option.bind (some (w6 ++ [.inr (.inl (64, fun _ => 0))])) fun w7 => Option.bind (pR w7 (some o) 4 3 (some w6.length)) fun w8 => Option.bind (some (w8 ++ [.inr (.inl (6, fun _ => 0))])) fun w9 => Option.bind (pR w9 (some o) 4 4 (some w8.length)) fun w10 => some (w10)
set_option maxRecDepth 100000 in
set_option maxHeartbeats 4000000 in
theorem met_X4_init (o : Nat) (w : mW) (res : mW) (h : f_X4_init o w = some res) : mMet M_X4_init 1 [vr ((some o))] w none res := by
  refine ev_met (n := 0) (by decide) rfl fun X => ?_
  unfold f_X4_init at h
  show mEv X M_X4_init 1 _ _ 0 [some (vr ((some o)))] [] w
  refine ev_aload_n (q := 1) dX4_init_0 rfl rfl ?_
  refine ev_obj (q := 4) dX4_init_1 rfl tw_188 tw_obji tw_objc (by decide) (Nat.le_of_ble_eq_true rfl) ?_
  refine ev_aload_n (q := 5) dX4_init_4 rfl rfl ?_
  refine ev_sipush (q := 8) (v := (144 : Int32)) dX4_init_5 rfl (by decide) ?_
  replace h := Option.bind_eq_some_iff.mp h; obtain ⟨w1, hw1, h⟩ := h
  cases hw1
  refine ev_newi (N := 144) dX4_init_8 rfl tw_67 (by decide) (by decide) (by decide) ?_
  replace h := Option.bind_eq_some_iff.mp h; obtain ⟨w2, hw2, h⟩ := h
  refine ev_pRF dX4_init_10 rfl mFit_a fp_X4_9 hw2 rfl ?_
  refine ev_aload_n (q := 14) dX4_init_13 rfl rfl ?_
  refine ev_sipush (q := 17) (v := (144 : Int32)) dX4_init_14 rfl (by decide) ?_
  replace h := Option.bind_eq_some_iff.mp h; obtain ⟨w3, hw3, h⟩ := h
  cases hw3
  refine ev_newi (N := 144) dX4_init_17 rfl tw_67 (by decide) (by decide) (by decide) ?_
  replace h := Option.bind_eq_some_iff.mp h; obtain ⟨w4, hw4, h⟩ := h
  refine ev_pRF dX4_init_19 rfl mFit_a fp_X4_15 hw4 rfl ?_
  refine ev_aload_n (q := 23) dX4_init_22 rfl rfl ?_
  refine ev_bipush (q := 25) (v := (64 : Int32)) dX4_init_23 rfl (by decide) ?_
  replace h := Option.bind_eq_some_iff.mp h; obtain ⟨w5, hw5, h⟩ := h
  cases hw5
  refine ev_newi (N := 64) dX4_init_25 rfl tw_67 (by decide) (by decide) (by decide) ?_
  replace h := Option.bind_eq_some_iff.mp h; obtain ⟨w6, hw6, h⟩ := h
  refine ev_pRF dX4_init_27 rfl mFit_a fp_X4_18 hw6 rfl ?_
  refine ev_aload_n (q := 31) dX4_init_30 rfl rfl ?_
  refine ev_bipush (q := 33) (v := (64 : Int32)) dX4_init_31 rfl (by decide) ?_
  replace h := Option.bind_eq_some_iff.mp h; obtain ⟨w7, hw7, h⟩ := h
  cases hw7
  refine ev_newi (N := 64) dX4_init_33 rfl tw_67 (by decide) (by decide) (by decide) ?_
  replace h := Option.bind_eq_some_iff.mp h; obtain ⟨w8, hw8, h⟩ := h
  refine ev_pRF dX4_init_35 rfl mFit_a fp_X4_21 hw8 rfl ?_
  refine ev_aload_n (q := 39) dX4_init_38 rfl rfl ?_
  refine ev_bipush (q := 41) (v := (6 : Int32)) dX4_init_39 rfl (by decide) ?_
  replace h := Option.bind_eq_some_iff.mp h; obtain ⟨w9, hw9, h⟩ := h
  cases hw9
  refine ev_newi (N := 6) dX4_init_41 rfl tw_67 (by decide) (by decide) (by decide) ?_
  replace h := Option.bind_eq_some_iff.mp h; obtain ⟨w10, hw10, h⟩ := h
  refine ev_pRF dX4_init_43 rfl mFit_a fp_X4_24 hw10 rfl ?_
  cases h
  exact ev_vret dX4_init_46 rfl
def f_X5_init (o : Nat) (w : mW) : Option (mW) := Option.bind (some (w ++ [.inr (.inl (6, fun _ => 0))])) fun w1 => Option.bind (pR w1 (some o) 5 0 (some w.length)) fun w2 => Option.bind (some (w2 ++ [.inr (.inl (4, fun _ => 0))])) fun w3 => Option.bind (pR w3 (some o) 5 1 (some w2.length)) fun w4 => Option.bind (some (w4 ++ [.inr (.inl (4, fun _ => 0))])) fun w5 => Option.bind (pR w5 (some o) 5 2 (some w4.length)) fun w6 => Option.bind (some (w6 ++ [.inr (.inl (4, fun _ => 0))])) fun w7 => Option.bind (pR w7 (some o) 5 3 (some w6.length)) fun w8 => some (w8)
set_option maxRecDepth 100000 in
set_option maxHeartbeats 4000000 in
theorem met_X5_init (o : Nat) (w : mW) (res : mW) (h : f_X5_init o w = some res) : mMet M_X5_init 1 [vr ((some o))] w none res := by
  refine ev_met (n := 0) (by decide) rfl fun X => ?_
  unfold f_X5_init at h
  show mEv X M_X5_init 1 _ _ 0 [some (vr ((some o)))] [] w
  refine ev_aload_n (q := 1) dX5_init_0 rfl rfl ?_
  refine ev_obj (q := 4) dX5_init_1 rfl tw_73 tw_obji tw_objc (by decide) (Nat.le_of_ble_eq_true rfl) ?_
  refine ev_aload_n (q := 5) dX5_init_4 rfl rfl ?_
  refine ev_bipush (q := 7) (v := (6 : Int32)) dX5_init_5 rfl (by decide) ?_
  replace h := Option.bind_eq_some_iff.mp h; obtain ⟨w1, hw1, h⟩ := h
  cases hw1
  refine ev_newi (N := 6) dX5_init_7 rfl tw_67 (by decide) (by decide) (by decide) ?_
  replace h := Option.bind_eq_some_iff.mp h; obtain ⟨w2, hw2, h⟩ := h
  refine ev_pRF dX5_init_9 rfl mFit_a fp_X5_9 hw2 rfl ?_
  refine ev_aload_n (q := 13) dX5_init_12 rfl rfl ?_
  refine ev_iconst (q := 14) (v := (4 : Int32)) dX5_init_13 rfl (by decide) ?_
  replace h := Option.bind_eq_some_iff.mp h; obtain ⟨w3, hw3, h⟩ := h
  cases hw3
  refine ev_newi (N := 4) dX5_init_14 rfl tw_67 (by decide) (by decide) (by decide) ?_
  replace h := Option.bind_eq_some_iff.mp h; obtain ⟨w4, hw4, h⟩ := h
  refine ev_pRF dX5_init_16 rfl mFit_a fp_X5_15 hw4 rfl ?_
  refine ev_aload_n (q := 20) dX5_init_19 rfl rfl ?_
  refine ev_iconst (q := 21) (v := (4 : Int32)) dX5_init_20 rfl (by decide) ?_
  replace h := Option.bind_eq_some_iff.mp h; obtain ⟨w5, hw5, h⟩ := h
  cases hw5
  refine ev_newi (N := 4) dX5_init_21 rfl tw_67 (by decide) (by decide) (by decide) ?_
  replace h := Option.bind_eq_some_iff.mp h; obtain ⟨w6, hw6, h⟩ := h
  refine ev_pRF dX5_init_23 rfl mFit_a fp_X5_18 hw6 rfl ?_
  refine ev_aload_n (q := 27) dX5_init_26 rfl rfl ?_
  refine ev_iconst (q := 28) (v := (4 : Int32)) dX5_init_27 rfl (by decide) ?_
  replace h := Option.bind_eq_some_iff.mp h; obtain ⟨w7, hw7, h⟩ := h
  cases hw7
  refine ev_newi (N := 4) dX5_init_28 rfl tw_67 (by decide) (by decide) (by decide) ?_
  replace h := Option.bind_eq_some_iff.mp h; obtain ⟨w8, hw8, h⟩ := h
  refine ev_pRF dX5_init_30 rfl mFit_a fp_X5_21 hw8 rfl ?_
  cases h
  exact ev_vret dX5_init_33 rfl
def f_X5_takesColumn_J76 (s0 : Int32) (w : mW) : Option (Int32 × mW) := if s0 = 0 ∨ s0 = 1 then some ((s0, w)) else none
set_option maxRecDepth 100000 in
set_option maxHeartbeats 4000000 in
theorem e_X5_takesColumn_J76 {X : mXs} (s0 : Int32) (w : mW) (res : Int32 × mW) (h : f_X5_takesColumn_J76 s0 w = some res) : mEv X M_X5_takesColumn 1 (some (vi res.1)) res.2 76 [none, none, none, none] [vi s0] w := by
  unfold f_X5_takesColumn_J76 at h
  by_cases hz : s0 = 0 ∨ s0 = 1
  · rw [if_pos hz] at h
    cases h
    exact ev_zret dX5_takesColumn_76 rfl hz
  · rw [if_neg hz] at h
    cases h
def f_X5_takesColumn_L11 (o : Nat) (v2 : Int32) (w : mW) : Nat → Int32 → Option ((Int32 × mW) ⊕ (Unit))
  | 0, _ => none
  | n + 1, v3 => Option.bind (gI w (some o) 5 4) fun r1 => if r1 ≤ v3 then (some (.inr ())) else (Option.bind (gR w (some o) 5 0) fun r2 => Option.bind (f_X10_at r2 v3 w) fun r3 => if r3 = v2 then (some (.inl ((0 : Int32), w))) else ((f_X5_takesColumn_L11 o v2 w n) (v3 + (1 : Int32))))
set_option maxRecDepth 100000 in
set_option maxHeartbeats 4000000 in
theorem e_X5_takesColumn_L11 {X : mXs} {r : Option mV} {w' : mW} (P : ((Int32 × mW) ⊕ (Unit)) → Prop) (o : Nat) (v2 : Int32) (w : mW) (hret : ∀ y, P (.inl y) → r = (some (vi y.1)) ∧ w' = y.2) (hexit : ∀ y, P (.inr y) → mEv X M_X5_takesColumn 1 r w' 39 [some (vr ((some o))), none, some (vi v2), none] [] w) : ∀ (n : Nat) (v3 : Int32) (e : (Int32 × mW) ⊕ (Unit)), f_X5_takesColumn_L11 o v2 w n v3 = some e → P e → mEv X M_X5_takesColumn 1 r w' 11 [some (vr ((some o))), none, some (vi v2), some (vi v3)] [] w := by
  intro n
  induction n with
  | zero =>
    intro v3 e h hP
    rw [f_X5_takesColumn_L11] at h
    cases h
  | succ n hk =>
    intro v3 e h hP
    rw [f_X5_takesColumn_L11] at h
    refine ev_iload_n (q := 12) dX5_takesColumn_11 rfl rfl ?_
    refine ev_aload_n (q := 13) dX5_takesColumn_12 rfl rfl ?_
    replace h := Option.bind_eq_some_iff.mp h; obtain ⟨r1, hr1, h⟩ := h
    refine ev_gI dX5_takesColumn_13 fl_X5_24 hr1 rfl ?_
    by_cases hc : r1 ≤ v3
    · rw [if_pos hc] at h
      refine ev_icmp_ge_t (q := 39) dX5_takesColumn_16 (by decide) hc ?_
      cases h
      exact ev_weak _ (mLe_some (mLe_none (mLe_some (mLe_none mLe_nil)))) (hexit _ hP)
    · rw [if_neg hc] at h
      refine ev_icmp_ge_f (q := 19) (t0 := 39) dX5_takesColumn_16 (by decide) rfl hc ?_
      refine ev_aload_n (q := 20) dX5_takesColumn_19 rfl rfl ?_
      replace h := Option.bind_eq_some_iff.mp h; obtain ⟨r2, hr2, h⟩ := h
      refine ev_gR dX5_takesColumn_20 fl_X5_9 hr2 rfl ?_
      refine ev_iload_n (q := 24) dX5_takesColumn_23 rfl rfl ?_
      replace h := Option.bind_eq_some_iff.mp h; obtain ⟨r3, hr3, h⟩ := h
      refine ev_invSN (M1 := M_X10_at) (as := [vr r2, vi v3]) dX5_takesColumn_24 rfl tw_251 cal_X10_at tw_252 (by decide) rfl rfl (Nat.le_of_ble_eq_true rfl) (met_X10_at r2 v3 w _ hr3) ?_
      refine ev_iload_n (q := 28) dX5_takesColumn_27 rfl rfl ?_
      by_cases hc : r3 = v2
      · rw [if_pos hc] at h
        refine ev_icmp_ne_f (q := 31) (t0 := 33) dX5_takesColumn_28 (by decide) rfl hc ?_
        refine ev_iconst (q := 32) (v := (0 : Int32)) dX5_takesColumn_31 rfl (by decide) ?_
        cases h
        obtain ⟨hr1, hr2⟩ := hret _ hP
        subst hr1
        subst hr2
        exact ev_zret dX5_takesColumn_32 rfl (Or.inl rfl)
      · rw [if_neg hc] at h
        refine ev_icmp_ne_t (q := 33) dX5_takesColumn_28 (by decide) hc ?_
        refine ev_iinc (q := 36) (v := v3 + (1 : Int32)) dX5_takesColumn_33 rfl (by decide) rfl (by rfl) ?_
        refine ev_goto (q := 11) dX5_takesColumn_36 (by decide) ?_
        exact ev_weak _ (mLe_some (mLe_none (mLe_some (mLe_some mLe_nil)))) (hk (v3 + (1 : Int32)) _ h hP)
def f_X5_takesColumn (o : Nat) (v1 : Int32) (w : mW) : Option (Int32 × mW) := Option.bind (gI w (some o) 5 6) fun r4 => Option.bind (f_X10_cellAt r4 v1 w) fun r5 => Option.bind (f_X5_takesColumn_L11 o r5 w mFuel (0 : Int32)) fun e6 => match e6 with | .inl y14 => some y14 | .inr y7 => Option.bind (gR w (some o) 5 0) fun r8 => Option.bind (gI w (some o) 5 4) fun r9 => Option.bind (f_X10_put r8 r9 r5 w) fun w10 => Option.bind (gI w10 (some o) 5 4) fun r11 => Option.bind (pI w10 (some o) 5 4 (r11 + (1 : Int32))) fun w12 => Option.bind (pI w12 (some o) 5 7 (2 : Int32)) fun w13 => if r5 = (-1 : Int32) then (f_X5_takesColumn_J76 (0 : Int32) w13) else (f_X5_takesColumn_J76 (1 : Int32) w13)
set_option maxRecDepth 100000 in
set_option maxHeartbeats 4000000 in
theorem met_X5_takesColumn (o : Nat) (v1 : Int32) (w : mW) (res : Int32 × mW) (h : f_X5_takesColumn o v1 w = some res) : mMet M_X5_takesColumn 1 [vr ((some o)), vi v1] w (some (vi res.1)) res.2 := by
  refine ev_met (n := 2) (by decide) rfl fun X => ?_
  unfold f_X5_takesColumn at h
  show mEv X M_X5_takesColumn 1 _ _ 0 [some (vr ((some o))), some (vi v1), none, none] [] w
  refine ev_aload_n (q := 1) dX5_takesColumn_0 rfl rfl ?_
  replace h := Option.bind_eq_some_iff.mp h; obtain ⟨r4, hr4, h⟩ := h
  refine ev_gI dX5_takesColumn_1 fl_X5_71 hr4 rfl ?_
  refine ev_iload_n (q := 5) dX5_takesColumn_4 rfl rfl ?_
  replace h := Option.bind_eq_some_iff.mp h; obtain ⟨r5, hr5, h⟩ := h
  refine ev_invSN (M1 := M_X10_cellAt) (as := [vi r4, vi v1]) dX5_takesColumn_5 rfl tw_266 cal_X10_cellAt tw_267 (by decide) rfl rfl (Nat.le_of_ble_eq_true rfl) (met_X10_cellAt r4 v1 w _ hr5) ?_
  refine ev_istore_n (q := 9) dX5_takesColumn_8 rfl (by decide) ?_
  refine ev_iconst (q := 10) (v := (0 : Int32)) dX5_takesColumn_9 rfl (by decide) ?_
  refine ev_istore_n (q := 11) dX5_takesColumn_10 rfl (by decide) ?_
  replace h := Option.bind_eq_some_iff.mp h; obtain ⟨e6, he6, h⟩ := h
  refine ev_weak _ (mLe_some (mLe_none (mLe_some (mLe_some mLe_nil)))) (e_X5_takesColumn_L11 (fun z => e6 = z) o r5 w (fun y14 hq => ?_) (fun y7 hq => ?_) mFuel (0 : Int32) _ he6 rfl)
  · subst hq
    dsimp only at h
    cases h
    exact ⟨rfl, rfl⟩
  · subst hq
    dsimp only at h
    refine ev_aload_n (q := 40) dX5_takesColumn_39 rfl rfl ?_
    replace h := Option.bind_eq_some_iff.mp h; obtain ⟨r8, hr8, h⟩ := h
    refine ev_gR dX5_takesColumn_40 fl_X5_9 hr8 rfl ?_
    refine ev_aload_n (q := 44) dX5_takesColumn_43 rfl rfl ?_
    replace h := Option.bind_eq_some_iff.mp h; obtain ⟨r9, hr9, h⟩ := h
    refine ev_gI dX5_takesColumn_44 fl_X5_24 hr9 rfl ?_
    refine ev_iload_n (q := 48) dX5_takesColumn_47 rfl rfl ?_
    replace h := Option.bind_eq_some_iff.mp h; obtain ⟨w10, hw10, h⟩ := h
    refine ev_invSN (M1 := M_X10_put) (as := [vr r8, vi r9, vi r5]) dX5_takesColumn_48 rfl tw_269 cal_X10_put tw_270 (by decide) rfl rfl (Nat.le_of_ble_eq_true rfl) (met_X10_put r8 r9 r5 w _ hw10) ?_
    refine ev_aload_n (q := 52) dX5_takesColumn_51 rfl rfl ?_
    refine ev_dup (q := 53) dX5_takesColumn_52 rfl rfl ?_
    replace h := Option.bind_eq_some_iff.mp h; obtain ⟨r11, hr11, h⟩ := h
    refine ev_gI dX5_takesColumn_53 fl_X5_24 hr11 rfl ?_
    refine ev_iconst (q := 57) (v := (1 : Int32)) dX5_takesColumn_56 rfl (by decide) ?_
    refine ev_iadd (q := 58) dX5_takesColumn_57 rfl ?_
    replace h := Option.bind_eq_some_iff.mp h; obtain ⟨w12, hw12, h⟩ := h
    refine ev_pI dX5_takesColumn_58 fp_X5_24 hw12 rfl ?_
    refine ev_aload_n (q := 62) dX5_takesColumn_61 rfl rfl ?_
    refine ev_iconst (q := 63) (v := (2 : Int32)) dX5_takesColumn_62 rfl (by decide) ?_
    replace h := Option.bind_eq_some_iff.mp h; obtain ⟨w13, hw13, h⟩ := h
    refine ev_pI dX5_takesColumn_63 fp_X5_31 hw13 rfl ?_
    refine ev_iload_n (q := 67) dX5_takesColumn_66 rfl rfl ?_
    refine ev_iconst (q := 68) (v := (-1 : Int32)) dX5_takesColumn_67 rfl (by decide) ?_
    by_cases hc : r5 = (-1 : Int32)
    · rw [if_pos hc] at h
      refine ev_icmp_eq_t (q := 75) dX5_takesColumn_68 (by decide) hc ?_
      refine ev_iconst (q := 76) (v := (0 : Int32)) dX5_takesColumn_75 rfl (by decide) ?_
      exact ev_weak _ (mLe_none (mLe_none (mLe_none (mLe_none mLe_nil)))) (e_X5_takesColumn_J76 (0 : Int32) w13 _ h)
    · rw [if_neg hc] at h
      refine ev_icmp_eq_f (q := 71) (t0 := 75) dX5_takesColumn_68 (by decide) rfl hc ?_
      refine ev_iconst (q := 72) (v := (1 : Int32)) dX5_takesColumn_71 rfl (by decide) ?_
      refine ev_goto (q := 76) dX5_takesColumn_72 (by decide) ?_
      exact ev_weak _ (mLe_none (mLe_none (mLe_none (mLe_none mLe_nil)))) (e_X5_takesColumn_J76 (1 : Int32) w13 _ h)
def f_X5_takesEast (o : Nat) (v1 : Int32) (w : mW) : Option (Int32 × mW) := Option.bind (gR w (some o) 5 3) fun r1 => Option.bind (gI w (some o) 5 5) fun r2 => Option.bind (f_X10_put r1 r2 v1 w) fun w3 => Option.bind (gI w3 (some o) 5 5) fun r4 => Option.bind (pI w3 (some o) 5 5 (r4 + (1 : Int32))) fun w5 => Option.bind (pI w5 (some o) 5 7 (6 : Int32)) fun w6 => Option.bind (f_X10_isTurn v1 w6) fun r7 => if r7 = 0 ∨ r7 = 1 then some ((r7, w6)) else none
set_option maxRecDepth 100000 in
set_option maxHeartbeats 4000000 in
theorem met_X5_takesEast (o : Nat) (v1 : Int32) (w : mW) (res : Int32 × mW) (h : f_X5_takesEast o v1 w = some res) : mMet M_X5_takesEast 1 [vr ((some o)), vi v1] w (some (vi res.1)) res.2 := by
  refine ev_met (n := 0) (by decide) rfl fun X => ?_
  unfold f_X5_takesEast at h
  show mEv X M_X5_takesEast 1 _ _ 0 [some (vr ((some o))), some (vi v1)] [] w
  refine ev_aload_n (q := 1) dX5_takesEast_0 rfl rfl ?_
  replace h := Option.bind_eq_some_iff.mp h; obtain ⟨r1, hr1, h⟩ := h
  refine ev_gR dX5_takesEast_1 fl_X5_21 hr1 rfl ?_
  refine ev_aload_n (q := 5) dX5_takesEast_4 rfl rfl ?_
  replace h := Option.bind_eq_some_iff.mp h; obtain ⟨r2, hr2, h⟩ := h
  refine ev_gI dX5_takesEast_5 fl_X5_28 hr2 rfl ?_
  refine ev_iload_n (q := 9) dX5_takesEast_8 rfl rfl ?_
  replace h := Option.bind_eq_some_iff.mp h; obtain ⟨w3, hw3, h⟩ := h
  refine ev_invSN (M1 := M_X10_put) (as := [vr r1, vi r2, vi v1]) dX5_takesEast_9 rfl tw_269 cal_X10_put tw_270 (by decide) rfl rfl (Nat.le_of_ble_eq_true rfl) (met_X10_put r1 r2 v1 w _ hw3) ?_
  refine ev_aload_n (q := 13) dX5_takesEast_12 rfl rfl ?_
  refine ev_dup (q := 14) dX5_takesEast_13 rfl rfl ?_
  replace h := Option.bind_eq_some_iff.mp h; obtain ⟨r4, hr4, h⟩ := h
  refine ev_gI dX5_takesEast_14 fl_X5_28 hr4 rfl ?_
  refine ev_iconst (q := 18) (v := (1 : Int32)) dX5_takesEast_17 rfl (by decide) ?_
  refine ev_iadd (q := 19) dX5_takesEast_18 rfl ?_
  replace h := Option.bind_eq_some_iff.mp h; obtain ⟨w5, hw5, h⟩ := h
  refine ev_pI dX5_takesEast_19 fp_X5_28 hw5 rfl ?_
  refine ev_aload_n (q := 23) dX5_takesEast_22 rfl rfl ?_
  refine ev_bipush (q := 25) (v := (6 : Int32)) dX5_takesEast_23 rfl (by decide) ?_
  replace h := Option.bind_eq_some_iff.mp h; obtain ⟨w6, hw6, h⟩ := h
  refine ev_pI dX5_takesEast_25 fp_X5_31 hw6 rfl ?_
  refine ev_iload_n (q := 29) dX5_takesEast_28 rfl rfl ?_
  replace h := Option.bind_eq_some_iff.mp h; obtain ⟨r7, hr7, h⟩ := h
  refine ev_invSN (M1 := M_X10_isTurn) (as := [vi v1]) dX5_takesEast_29 rfl tw_371 cal_X10_isTurn tw_372 (by decide) rfl rfl (Nat.le_of_ble_eq_true rfl) (met_X10_isTurn v1 w6 _ hr7) ?_
  by_cases hz : r7 = 0 ∨ r7 = 1
  · rw [if_pos hz] at h
    cases h
    exact ev_zret dX5_takesEast_32 rfl hz
  · rw [if_neg hz] at h
    cases h
def f_X5_takesSouth (o : Nat) (v1 : Int32) (w : mW) : Option (Int32 × mW) := Option.bind (gR w (some o) 5 2) fun r1 => Option.bind (gI w (some o) 5 5) fun r2 => Option.bind (f_X10_put r1 r2 v1 w) fun w3 => Option.bind (pI w3 (some o) 5 7 (5 : Int32)) fun w4 => Option.bind (f_X10_isTurn v1 w4) fun r5 => if r5 = 0 ∨ r5 = 1 then some ((r5, w4)) else none
set_option maxRecDepth 100000 in
set_option maxHeartbeats 4000000 in
theorem met_X5_takesSouth (o : Nat) (v1 : Int32) (w : mW) (res : Int32 × mW) (h : f_X5_takesSouth o v1 w = some res) : mMet M_X5_takesSouth 1 [vr ((some o)), vi v1] w (some (vi res.1)) res.2 := by
  refine ev_met (n := 0) (by decide) rfl fun X => ?_
  unfold f_X5_takesSouth at h
  show mEv X M_X5_takesSouth 1 _ _ 0 [some (vr ((some o))), some (vi v1)] [] w
  refine ev_aload_n (q := 1) dX5_takesSouth_0 rfl rfl ?_
  replace h := Option.bind_eq_some_iff.mp h; obtain ⟨r1, hr1, h⟩ := h
  refine ev_gR dX5_takesSouth_1 fl_X5_18 hr1 rfl ?_
  refine ev_aload_n (q := 5) dX5_takesSouth_4 rfl rfl ?_
  replace h := Option.bind_eq_some_iff.mp h; obtain ⟨r2, hr2, h⟩ := h
  refine ev_gI dX5_takesSouth_5 fl_X5_28 hr2 rfl ?_
  refine ev_iload_n (q := 9) dX5_takesSouth_8 rfl rfl ?_
  replace h := Option.bind_eq_some_iff.mp h; obtain ⟨w3, hw3, h⟩ := h
  refine ev_invSN (M1 := M_X10_put) (as := [vr r1, vi r2, vi v1]) dX5_takesSouth_9 rfl tw_269 cal_X10_put tw_270 (by decide) rfl rfl (Nat.le_of_ble_eq_true rfl) (met_X10_put r1 r2 v1 w _ hw3) ?_
  refine ev_aload_n (q := 13) dX5_takesSouth_12 rfl rfl ?_
  refine ev_iconst (q := 14) (v := (5 : Int32)) dX5_takesSouth_13 rfl (by decide) ?_
  replace h := Option.bind_eq_some_iff.mp h; obtain ⟨w4, hw4, h⟩ := h
  refine ev_pI dX5_takesSouth_14 fp_X5_31 hw4 rfl ?_
  refine ev_iload_n (q := 18) dX5_takesSouth_17 rfl rfl ?_
  replace h := Option.bind_eq_some_iff.mp h; obtain ⟨r5, hr5, h⟩ := h
  refine ev_invSN (M1 := M_X10_isTurn) (as := [vi v1]) dX5_takesSouth_18 rfl tw_371 cal_X10_isTurn tw_372 (by decide) rfl rfl (Nat.le_of_ble_eq_true rfl) (met_X10_isTurn v1 w4 _ hr5) ?_
  by_cases hz : r5 = 0 ∨ r5 = 1
  · rw [if_pos hz] at h
    cases h
    exact ev_zret dX5_takesSouth_21 rfl hz
  · rw [if_neg hz] at h
    cases h
def f_X6_init (o : Nat) (w : mW) : Option (mW) := Option.bind (some (w ++ [.inr (.inl (6, fun _ => 0))])) fun w1 => Option.bind (pR w1 (some o) 6 0 (some w.length)) fun w2 => Option.bind (some (w2 ++ [.inr (.inl (6, fun _ => 0))])) fun w3 => Option.bind (pR w3 (some o) 6 1 (some w2.length)) fun w4 => Option.bind (some (w4 ++ [.inr (.inl (6, fun _ => 0))])) fun w5 => Option.bind (pR w5 (some o) 6 2 (some w4.length)) fun w6 => some (w6)
set_option maxRecDepth 100000 in
set_option maxHeartbeats 4000000 in
theorem met_X6_init (o : Nat) (w : mW) (res : mW) (h : f_X6_init o w = some res) : mMet M_X6_init 1 [vr ((some o))] w none res := by
  refine ev_met (n := 0) (by decide) rfl fun X => ?_
  unfold f_X6_init at h
  show mEv X M_X6_init 1 _ _ 0 [some (vr ((some o)))] [] w
  refine ev_aload_n (q := 1) dX6_init_0 rfl rfl ?_
  refine ev_obj (q := 4) dX6_init_1 rfl tw_118 tw_obji tw_objc (by decide) (Nat.le_of_ble_eq_true rfl) ?_
  refine ev_aload_n (q := 5) dX6_init_4 rfl rfl ?_
  refine ev_bipush (q := 7) (v := (6 : Int32)) dX6_init_5 rfl (by decide) ?_
  replace h := Option.bind_eq_some_iff.mp h; obtain ⟨w1, hw1, h⟩ := h
  cases hw1
  refine ev_newi (N := 6) dX6_init_7 rfl tw_67 (by decide) (by decide) (by decide) ?_
  replace h := Option.bind_eq_some_iff.mp h; obtain ⟨w2, hw2, h⟩ := h
  refine ev_pRF dX6_init_9 rfl mFit_a fp_X6_9 hw2 rfl ?_
  refine ev_aload_n (q := 13) dX6_init_12 rfl rfl ?_
  refine ev_bipush (q := 15) (v := (6 : Int32)) dX6_init_13 rfl (by decide) ?_
  replace h := Option.bind_eq_some_iff.mp h; obtain ⟨w3, hw3, h⟩ := h
  cases hw3
  refine ev_newi (N := 6) dX6_init_15 rfl tw_67 (by decide) (by decide) (by decide) ?_
  replace h := Option.bind_eq_some_iff.mp h; obtain ⟨w4, hw4, h⟩ := h
  refine ev_pRF dX6_init_17 rfl mFit_a fp_X6_15 hw4 rfl ?_
  refine ev_aload_n (q := 21) dX6_init_20 rfl rfl ?_
  refine ev_bipush (q := 23) (v := (6 : Int32)) dX6_init_21 rfl (by decide) ?_
  replace h := Option.bind_eq_some_iff.mp h; obtain ⟨w5, hw5, h⟩ := h
  cases hw5
  refine ev_newi (N := 6) dX6_init_23 rfl tw_67 (by decide) (by decide) (by decide) ?_
  replace h := Option.bind_eq_some_iff.mp h; obtain ⟨w6, hw6, h⟩ := h
  refine ev_pRF dX6_init_25 rfl mFit_a fp_X6_18 hw6 rfl ?_
  cases h
  exact ev_vret dX6_init_28 rfl
def f_X7_spreads_J17 (s0 : Int32) (w : mW) : Option (Int32) := if s0 = 0 ∨ s0 = 1 then some (s0) else none
set_option maxRecDepth 100000 in
set_option maxHeartbeats 4000000 in
theorem e_X7_spreads_J17 {X : mXs} (s0 : Int32) (w : mW) (res : Int32) (h : f_X7_spreads_J17 s0 w = some res) : mEv X M_X7_spreads 1 (some (vi res)) w 17 [none, none, none] [vi s0] w := by
  unfold f_X7_spreads_J17 at h
  by_cases hz : s0 = 0 ∨ s0 = 1
  · rw [if_pos hz] at h
    cases h
    exact ev_zret dX7_spreads_17 rfl hz
  · rw [if_neg hz] at h
    cases h
def f_X7_spreads_J16 (w : mW) : Option (Int32) := f_X7_spreads_J17 (0 : Int32) w
set_option maxRecDepth 100000 in
set_option maxHeartbeats 4000000 in
theorem e_X7_spreads_J16 {X : mXs} (w : mW) (res : Int32) (h : f_X7_spreads_J16 w = some res) : mEv X M_X7_spreads 1 (some (vi res)) w 16 [none, none, none] [] w := by
  unfold f_X7_spreads_J16 at h
  refine ev_iconst (q := 17) (v := (0 : Int32)) dX7_spreads_16 rfl (by decide) ?_
  exact ev_weak _ (mLe_none (mLe_none (mLe_none mLe_nil))) (e_X7_spreads_J17 (0 : Int32) w _ h)
def f_X7_spreads (o : Nat) (v1 : Int32) (v2 : Int32) (w : mW) : Option (Int32) := if v1 = 0 then (if (1 : Int32) < (if 0 ≤ v2 then v2 else 0 - v2) then (f_X7_spreads_J16 w) else (f_X7_spreads_J17 (1 : Int32) w)) else (f_X7_spreads_J16 w)
set_option maxRecDepth 100000 in
set_option maxHeartbeats 4000000 in
theorem met_X7_spreads (o : Nat) (v1 : Int32) (v2 : Int32) (w : mW) (res : Int32) (h : f_X7_spreads o v1 v2 w = some res) : mMet M_X7_spreads 1 [vr ((some o)), vi v1, vi v2] w (some (vi res)) w := by
  refine ev_met (n := 0) (by decide) rfl fun X => ?_
  unfold f_X7_spreads at h
  show mEv X M_X7_spreads 1 _ _ 0 [some (vr ((some o))), some (vi v1), some (vi v2)] [] w
  refine ev_iload_n (q := 1) dX7_spreads_0 rfl rfl ?_
  by_cases hc : v1 = 0
  · rw [if_pos hc] at h
    refine ev_if_ne_f (q := 4) (t0 := 16) dX7_spreads_1 (by decide) rfl hc ?_
    refine ev_iload_n (q := 5) dX7_spreads_4 rfl rfl ?_
    refine ev_mabs (q := 8) dX7_spreads_5 rfl tw_494 tw_482 tw_mathi tw_483 (by decide) (Nat.le_of_ble_eq_true rfl) ?_
    refine ev_iconst (q := 9) (v := (1 : Int32)) dX7_spreads_8 rfl (by decide) ?_
    by_cases hc : (1 : Int32) < (if 0 ≤ v2 then v2 else 0 - v2)
    · rw [if_pos hc] at h
      refine ev_icmp_gt_t (q := 16) dX7_spreads_9 (by decide) hc ?_
      exact ev_weak _ (mLe_none (mLe_none (mLe_none mLe_nil))) (e_X7_spreads_J16 w _ h)
    · rw [if_neg hc] at h
      refine ev_icmp_gt_f (q := 12) (t0 := 16) dX7_spreads_9 (by decide) rfl hc ?_
      refine ev_iconst (q := 13) (v := (1 : Int32)) dX7_spreads_12 rfl (by decide) ?_
      refine ev_goto (q := 17) dX7_spreads_13 (by decide) ?_
      exact ev_weak _ (mLe_none (mLe_none (mLe_none mLe_nil))) (e_X7_spreads_J17 (1 : Int32) w _ h)
  · rw [if_neg hc] at h
    refine ev_if_ne_t (q := 16) dX7_spreads_1 (by decide) hc ?_
    exact ev_weak _ (mLe_none (mLe_none (mLe_none mLe_nil))) (e_X7_spreads_J16 w _ h)
def f_X8_init (o : Nat) (w : mW) : Option (Unit) := some (())
set_option maxRecDepth 100000 in
set_option maxHeartbeats 4000000 in
theorem met_X8_init (o : Nat) (w : mW) (res : Unit) (h : f_X8_init o w = some res) : mMet M_X8_init 1 [vr ((some o))] w none w := by
  refine ev_met (n := 0) (by decide) rfl fun X => ?_
  unfold f_X8_init at h
  show mEv X M_X8_init 1 _ _ 0 [some (vr ((some o)))] [] w
  refine ev_aload_n (q := 1) dX8_init_0 rfl rfl ?_
  refine ev_obj (q := 4) dX8_init_1 rfl tw_418 tw_obji tw_objc (by decide) (Nat.le_of_ble_eq_true rfl) ?_
  cases h
  exact ev_vret dX8_init_4 rfl
def f_X8_spreads_J18 (s0 : Int32) (w : mW) : Option (Int32) := if s0 = 0 ∨ s0 = 1 then some (s0) else none
set_option maxRecDepth 100000 in
set_option maxHeartbeats 4000000 in
theorem e_X8_spreads_J18 {X : mXs} (s0 : Int32) (w : mW) (res : Int32) (h : f_X8_spreads_J18 s0 w = some res) : mEv X M_X8_spreads 1 (some (vi res)) w 18 [none, none, none] [vi s0] w := by
  unfold f_X8_spreads_J18 at h
  by_cases hz : s0 = 0 ∨ s0 = 1
  · rw [if_pos hz] at h
    cases h
    exact ev_zret dX8_spreads_18 rfl hz
  · rw [if_neg hz] at h
    cases h
def f_X8_spreads (o : Nat) (v1 : Int32) (v2 : Int32) (w : mW) : Option (Int32) := if (1 : Int32) < (if 0 ≤ v1 then v1 else 0 - v1) + (if 0 ≤ v2 then v2 else 0 - v2) then (f_X8_spreads_J18 (0 : Int32) w) else (f_X8_spreads_J18 (1 : Int32) w)
set_option maxRecDepth 100000 in
set_option maxHeartbeats 4000000 in
theorem met_X8_spreads (o : Nat) (v1 : Int32) (v2 : Int32) (w : mW) (res : Int32) (h : f_X8_spreads o v1 v2 w = some res) : mMet M_X8_spreads 1 [vr ((some o)), vi v1, vi v2] w (some (vi res)) w := by
  refine ev_met (n := 0) (by decide) rfl fun X => ?_
  unfold f_X8_spreads at h
  show mEv X M_X8_spreads 1 _ _ 0 [some (vr ((some o))), some (vi v1), some (vi v2)] [] w
  refine ev_iload_n (q := 1) dX8_spreads_0 rfl rfl ?_
  refine ev_mabs (q := 4) dX8_spreads_1 rfl tw_497 tw_482 tw_mathi tw_483 (by decide) (Nat.le_of_ble_eq_true rfl) ?_
  refine ev_iload_n (q := 5) dX8_spreads_4 rfl rfl ?_
  refine ev_mabs (q := 8) dX8_spreads_5 rfl tw_497 tw_482 tw_mathi tw_483 (by decide) (Nat.le_of_ble_eq_true rfl) ?_
  refine ev_iadd (q := 9) dX8_spreads_8 rfl ?_
  refine ev_iconst (q := 10) (v := (1 : Int32)) dX8_spreads_9 rfl (by decide) ?_
  by_cases hc : (1 : Int32) < (if 0 ≤ v1 then v1 else 0 - v1) + (if 0 ≤ v2 then v2 else 0 - v2)
  · rw [if_pos hc] at h
    refine ev_icmp_gt_t (q := 17) dX8_spreads_10 (by decide) hc ?_
    refine ev_iconst (q := 18) (v := (0 : Int32)) dX8_spreads_17 rfl (by decide) ?_
    exact ev_weak _ (mLe_none (mLe_none (mLe_none mLe_nil))) (e_X8_spreads_J18 (0 : Int32) w _ h)
  · rw [if_neg hc] at h
    refine ev_icmp_gt_f (q := 13) (t0 := 17) dX8_spreads_10 (by decide) rfl hc ?_
    refine ev_iconst (q := 14) (v := (1 : Int32)) dX8_spreads_13 rfl (by decide) ?_
    refine ev_goto (q := 18) dX8_spreads_14 (by decide) ?_
    exact ev_weak _ (mLe_none (mLe_none (mLe_none mLe_nil))) (e_X8_spreads_J18 (1 : Int32) w _ h)
def f_X9_spreads_J21 (s0 : Int32) (w : mW) : Option (Int32) := if s0 = 0 ∨ s0 = 1 then some (s0) else none
set_option maxRecDepth 100000 in
set_option maxHeartbeats 4000000 in
theorem e_X9_spreads_J21 {X : mXs} (s0 : Int32) (w : mW) (res : Int32) (h : f_X9_spreads_J21 s0 w = some res) : mEv X M_X9_spreads 1 (some (vi res)) w 21 [none, none, none] [vi s0] w := by
  unfold f_X9_spreads_J21 at h
  by_cases hz : s0 = 0 ∨ s0 = 1
  · rw [if_pos hz] at h
    cases h
    exact ev_zret dX9_spreads_21 rfl hz
  · rw [if_neg hz] at h
    cases h
def f_X9_spreads_J20 (w : mW) : Option (Int32) := f_X9_spreads_J21 (0 : Int32) w
set_option maxRecDepth 100000 in
set_option maxHeartbeats 4000000 in
theorem e_X9_spreads_J20 {X : mXs} (w : mW) (res : Int32) (h : f_X9_spreads_J20 w = some res) : mEv X M_X9_spreads 1 (some (vi res)) w 20 [none, none, none] [] w := by
  unfold f_X9_spreads_J20 at h
  refine ev_iconst (q := 21) (v := (0 : Int32)) dX9_spreads_20 rfl (by decide) ?_
  exact ev_weak _ (mLe_none (mLe_none (mLe_none mLe_nil))) (e_X9_spreads_J21 (0 : Int32) w _ h)
def f_X9_spreads (o : Nat) (v1 : Int32) (v2 : Int32) (w : mW) : Option (Int32) := if (1 : Int32) < (if 0 ≤ v1 then v1 else 0 - v1) then (f_X9_spreads_J20 w) else (if (1 : Int32) < (if 0 ≤ v2 then v2 else 0 - v2) then (f_X9_spreads_J20 w) else (f_X9_spreads_J21 (1 : Int32) w))
set_option maxRecDepth 100000 in
set_option maxHeartbeats 4000000 in
theorem met_X9_spreads (o : Nat) (v1 : Int32) (v2 : Int32) (w : mW) (res : Int32) (h : f_X9_spreads o v1 v2 w = some res) : mMet M_X9_spreads 1 [vr ((some o)), vi v1, vi v2] w (some (vi res)) w := by
  refine ev_met (n := 0) (by decide) rfl fun X => ?_
  unfold f_X9_spreads at h
  show mEv X M_X9_spreads 1 _ _ 0 [some (vr ((some o))), some (vi v1), some (vi v2)] [] w
  refine ev_iload_n (q := 1) dX9_spreads_0 rfl rfl ?_
  refine ev_mabs (q := 4) dX9_spreads_1 rfl tw_490 tw_482 tw_mathi tw_483 (by decide) (Nat.le_of_ble_eq_true rfl) ?_
  refine ev_iconst (q := 5) (v := (1 : Int32)) dX9_spreads_4 rfl (by decide) ?_
  by_cases hc : (1 : Int32) < (if 0 ≤ v1 then v1 else 0 - v1)
  · rw [if_pos hc] at h
    refine ev_icmp_gt_t (q := 20) dX9_spreads_5 (by decide) hc ?_
    exact ev_weak _ (mLe_none (mLe_none (mLe_none mLe_nil))) (e_X9_spreads_J20 w _ h)
  · rw [if_neg hc] at h
    refine ev_icmp_gt_f (q := 8) (t0 := 20) dX9_spreads_5 (by decide) rfl hc ?_
    refine ev_iload_n (q := 9) dX9_spreads_8 rfl rfl ?_
    refine ev_mabs (q := 12) dX9_spreads_9 rfl tw_490 tw_482 tw_mathi tw_483 (by decide) (Nat.le_of_ble_eq_true rfl) ?_
    refine ev_iconst (q := 13) (v := (1 : Int32)) dX9_spreads_12 rfl (by decide) ?_
    by_cases hc : (1 : Int32) < (if 0 ≤ v2 then v2 else 0 - v2)
    · rw [if_pos hc] at h
      refine ev_icmp_gt_t (q := 20) dX9_spreads_13 (by decide) hc ?_
      exact ev_weak _ (mLe_none (mLe_none (mLe_none mLe_nil))) (e_X9_spreads_J20 w _ h)
    · rw [if_neg hc] at h
      refine ev_icmp_gt_f (q := 16) (t0 := 20) dX9_spreads_13 (by decide) rfl hc ?_
      refine ev_iconst (q := 17) (v := (1 : Int32)) dX9_spreads_16 rfl (by decide) ?_
      refine ev_goto (q := 21) dX9_spreads_17 (by decide) ?_
      exact ev_weak _ (mLe_none (mLe_none (mLe_none mLe_nil))) (e_X9_spreads_J21 (1 : Int32) w _ h)
def f_J0_length_8abf5  (w : mW) : Option (Int32) := Option.bind (f_J0_coder_7d493  w) fun r1 => some ((5 : Int32) >>> (r1 &&& 31))
set_option maxRecDepth 100000 in
set_option maxHeartbeats 4000000 in
theorem met_J0_length_8abf5  (w : mW) (res : Int32) (h : f_J0_length_8abf5  w = some res) : mMet M_J0_length_8abf5 1 [vx 1] w (some (vi res)) w := by
  refine ev_met (n := 0) (by decide) rfl fun X => ?_
  unfold f_J0_length_8abf5 at h
  show mEv X M_J0_length_8abf5 1 _ _ 0 [some (vx 1)] [] w
  refine ev_aload_n (q := 1) dJ0_length_8abf5_0 rfl rfl ?_
  refine ev_value (q := 4) dJ0_length_8abf5_1 rfl tw_744 ?_
  refine ev_blen (q := 5) dJ0_length_8abf5_4 rfl ?_
  refine ev_aload_n (q := 6) dJ0_length_8abf5_5 rfl rfl ?_
  replace h := Option.bind_eq_some_iff.mp h; obtain ⟨r1, hr1, h⟩ := h
  refine ev_invStr (M1 := M_J0_coder_7d493) (as := []) dJ0_length_8abf5_6 rfl tw_299 rfl cal_J0_coder_7d493 tw_300 tw_301 (by decide) rfl rfl (Nat.le_of_ble_eq_true rfl) (met_J0_coder_7d493  w _ hr1) ?_
  refine ev_ishr (q := 10) dJ0_length_8abf5_9 rfl ?_
  cases h
  exact ev_iret dJ0_length_8abf5_10 rfl rfl
def f_J1_indexOf_4cfef (v1 : Int32) (v2 : Int32) (v3 : Int32) (w : mW) : Option (Int32) := Option.bind (f_J1_canEncode_9a6ad v1 w) fun r1 => if r1 = 0 then (some ((-1 : Int32))) else (if (if v2 < (0 : Int32) then (0 : Int32) else v2) < (if (5 : Int32) < v3 then (5 : Int32) else v3) then (Option.bind (f_J1_indexOfChar_4cfef v1 (if v2 < (0 : Int32) then (0 : Int32) else v2) (if (5 : Int32) < v3 then (5 : Int32) else v3) w) fun r2 => some (r2)) else (some ((-1 : Int32))))
set_option maxRecDepth 100000 in
set_option maxHeartbeats 4000000 in
theorem met_J1_indexOf_4cfef (v1 : Int32) (v2 : Int32) (v3 : Int32) (w : mW) (res : Int32) (h : f_J1_indexOf_4cfef v1 v2 v3 w = some res) : mMet M_J1_indexOf_4cfef 1 [vx 2, vi v1, vi v2, vi v3] w (some (vi res)) w := by
  refine ev_met (n := 0) (by decide) rfl fun X => ?_
  unfold f_J1_indexOf_4cfef at h
  show mEv X M_J1_indexOf_4cfef 1 _ _ 0 [some (vx 2), some (vi v1), some (vi v2), some (vi v3)] [] w
  refine ev_iload_n (q := 1) dJ1_indexOf_4cfef_0 rfl rfl ?_
  replace h := Option.bind_eq_some_iff.mp h; obtain ⟨r1, hr1, h⟩ := h
  refine ev_invS (M1 := M_J1_canEncode_9a6ad) (as := [vi v1]) dJ1_indexOf_4cfef_1 rfl tw_306 cal_J1_canEncode_9a6ad tw_307 (by decide) rfl rfl (Nat.le_of_ble_eq_true rfl) (met_J1_canEncode_9a6ad v1 w _ hr1) ?_
  by_cases hc : r1 = 0
  · rw [if_pos hc] at h
    refine ev_if_ne_f (q := 7) (t0 := 9) dJ1_indexOf_4cfef_4 (by decide) rfl hc ?_
    refine ev_iconst (q := 8) (v := (-1 : Int32)) dJ1_indexOf_4cfef_7 rfl (by decide) ?_
    cases h
    exact ev_iret dJ1_indexOf_4cfef_8 rfl rfl
  · rw [if_neg hc] at h
    refine ev_if_ne_t (q := 9) dJ1_indexOf_4cfef_4 (by decide) hc ?_
    refine ev_iload_n (q := 10) dJ1_indexOf_4cfef_9 rfl rfl ?_
    refine ev_iconst (q := 11) (v := (0 : Int32)) dJ1_indexOf_4cfef_10 rfl (by decide) ?_
    refine ev_mmax (q := 14) dJ1_indexOf_4cfef_11 rfl tw_309 tw_310 tw_mathi tw_311 (by decide) (Nat.le_of_ble_eq_true rfl) ?_
    refine ev_istore_n (q := 15) dJ1_indexOf_4cfef_14 rfl (by decide) ?_
    refine ev_iload_n (q := 16) dJ1_indexOf_4cfef_15 rfl rfl ?_
    refine ev_aload_n (q := 17) dJ1_indexOf_4cfef_16 rfl rfl ?_
    refine ev_blen (q := 18) dJ1_indexOf_4cfef_17 rfl ?_
    refine ev_mmin (q := 21) dJ1_indexOf_4cfef_18 rfl tw_312 tw_313 tw_mathi tw_314 (by decide) (Nat.le_of_ble_eq_true rfl) ?_
    refine ev_istore_n (q := 22) dJ1_indexOf_4cfef_21 rfl (by decide) ?_
    refine ev_iload_n (q := 23) dJ1_indexOf_4cfef_22 rfl rfl ?_
    refine ev_iload_n (q := 24) dJ1_indexOf_4cfef_23 rfl rfl ?_
    by_cases hc : (if v2 < (0 : Int32) then (0 : Int32) else v2) < (if (5 : Int32) < v3 then (5 : Int32) else v3)
    · rw [if_pos hc] at h
      refine ev_icmp_lt_t (q := 29) dJ1_indexOf_4cfef_24 (by decide) hc ?_
      refine ev_aload_n (q := 30) dJ1_indexOf_4cfef_29 rfl rfl ?_
      refine ev_iload_n (q := 31) dJ1_indexOf_4cfef_30 rfl rfl ?_
      refine ev_iload_n (q := 32) dJ1_indexOf_4cfef_31 rfl rfl ?_
      refine ev_iload_n (q := 33) dJ1_indexOf_4cfef_32 rfl rfl ?_
      replace h := Option.bind_eq_some_iff.mp h; obtain ⟨r2, hr2, h⟩ := h
      refine ev_invS (M1 := M_J1_indexOfChar_4cfef) (as := [vx 2, vi v1, vi ((if v2 < (0 : Int32) then (0 : Int32) else v2)), vi ((if (5 : Int32) < v3 then (5 : Int32) else v3))]) dJ1_indexOf_4cfef_33 rfl tw_315 cal_J1_indexOfChar_4cfef tw_316 (by decide) rfl rfl (Nat.le_of_ble_eq_true rfl) (met_J1_indexOfChar_4cfef v1 (if v2 < (0 : Int32) then (0 : Int32) else v2) (if (5 : Int32) < v3 then (5 : Int32) else v3) w _ hr2) ?_
      cases h
      exact ev_iret dJ1_indexOf_4cfef_36 rfl rfl
    · rw [if_neg hc] at h
      refine ev_icmp_lt_f (q := 27) (t0 := 29) dJ1_indexOf_4cfef_24 (by decide) rfl hc ?_
      refine ev_iconst (q := 28) (v := (-1 : Int32)) dJ1_indexOf_4cfef_27 rfl (by decide) ?_
      cases h
      exact ev_iret dJ1_indexOf_4cfef_28 rfl rfl
