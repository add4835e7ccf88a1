def f_L_stands_J358 (s0 : Int32) (w : mW) : Option (Int32 × mW) := if s0 = 0 ∨ s0 = 1 then some ((s0, w)) else none
set_option maxRecDepth 100000 in
set_option maxHeartbeats 4000000 in
theorem e_L_stands_J358 {X : mXs} (s0 : Int32) (w : mW) (res : Int32 × mW) (h : f_L_stands_J358 s0 w = some res) : mEv X M_L_stands 7 (some (vi res.1)) res.2 358 [none, none, none, none, none] [vi s0] w := by
  unfold f_L_stands_J358 at h
  by_cases hz : s0 = 0 ∨ s0 = 1
  · rw [if_pos hz] at h
    cases h
    exact ev_zret dL_stands_358 rfl hz
  · rw [if_neg hz] at h
    cases h
def f_L_stands_J357 (w : mW) : Option (Int32 × mW) := f_L_stands_J358 (0 : Int32) w
set_option maxRecDepth 100000 in
set_option maxHeartbeats 4000000 in
theorem e_L_stands_J357 {X : mXs} (w : mW) (res : Int32 × mW) (h : f_L_stands_J357 w = some res) : mEv X M_L_stands 7 (some (vi res.1)) res.2 357 [none, none, none, none, none] [] w := by
  unfold f_L_stands_J357 at h
  refine ev_iconst (q := 358) (v := (0 : Int32)) dL_stands_357 rfl (by decide) ?_
  exact ev_weak _ (mLe_none (mLe_none (mLe_none (mLe_none (mLe_none mLe_nil))))) (e_L_stands_J358 (0 : Int32) w _ h)
def f_L_stands_J225 (w : mW) : Option ((Int32 × mW) ⊕ (mW)) := some (.inl ((0 : Int32), w))
set_option maxRecDepth 100000 in
set_option maxHeartbeats 4000000 in
theorem e_L_stands_J225 {X : mXs} {r : Option mV} {w' : mW} (P : ((Int32 × mW) ⊕ (mW)) → Prop) (w : mW) (hret : ∀ y, P (.inl y) → r = (some (vi y.1)) ∧ w' = y.2) (e : (Int32 × mW) ⊕ (mW)) (h : f_L_stands_J225 w = some e) (hP : P e) : mEv X M_L_stands 7 r w' 225 [none, none, none, none, none] [] w := by
  unfold f_L_stands_J225 at h
  refine ev_iconst (q := 226) (v := (0 : Int32)) dL_stands_225 rfl (by decide) ?_
  cases h
  obtain ⟨hr1, hr2⟩ := hret _ hP
  subst hr1
  subst hr2
  exact ev_zret dL_stands_226 rfl (Or.inl rfl)
def f_L_stands_L130 (v0 : Option Nat) (v1 : Option Nat) (v2 : Option Nat) (v3 : Option Nat) : Nat → Int32 → mW → Option ((Int32 × mW) ⊕ (mW))
  | 0, _, _ => none
  | n + 1, v4, w => Option.bind (aL w v1 (1 : Int32)) fun r1 => if r1 ≤ v4 then (some (.inr w)) else (Option.bind (kO w v0 10) fun q3 => Option.bind (f_X10_tosser q3 v4 (0 : Int32) w) fun r2 => Option.bind (aL w v1 ((2 : Int32) + v4)) fun r4 => if r2 = r4 then (Option.bind (kO w (some q3) 10) fun _ => Option.bind (f_X10_tosser q3 v4 (1 : Int32) w) fun r5 => Option.bind (aL w v2 ((24 : Int32) + v4)) fun r7 => if r5 = r7 then (Option.bind (kO w (some q3) 10) fun _ => Option.bind (f_X10_tosser q3 v4 (2 : Int32) w) fun r8 => Option.bind (aL w v2 ((28 : Int32) + v4)) fun r10 => if r8 = r10 then (Option.bind (kO w (some q3) 10) fun _ => Option.bind (f_X10_tosser q3 v4 (3 : Int32) w) fun r11 => Option.bind (aL w v1 ((2 : Int32) + v4)) fun r13 => Option.bind (f_L_batter r13 w) fun r14 => if r11 = r14 then (Option.bind (kO w (some q3) 10) fun _ => Option.bind (f_X10_tosser q3 v4 (8 : Int32) w) fun r15 => Option.bind (aL w v2 ((32 : Int32) + v4)) fun r17 => if r15 = r17 then (Option.bind (aL w v3 (3 : Int32)) fun r18 => Option.bind (aL w v2 ((32 : Int32) + v4)) fun r19 => Option.bind (aS w v3 (3 : Int32) (r18 + r19)) fun w20 => (f_L_stands_L130 v0 v1 v2 v3 n) (v4 + (1 : Int32)) w20) else (f_L_stands_J225 w)) else (f_L_stands_J225 w)) else (f_L_stands_J225 w)) else (f_L_stands_J225 w)) else (f_L_stands_J225 w))
set_option maxRecDepth 100000 in
set_option maxHeartbeats 4000000 in
theorem e_L_stands_L130 {X : mXs} {r : Option mV} {w' : mW} (P : ((Int32 × mW) ⊕ (mW)) → Prop) (v0 : Option Nat) (v1 : Option Nat) (v2 : Option Nat) (v3 : Option Nat) (hret : ∀ y, P (.inl y) → r = (some (vi y.1)) ∧ w' = y.2) (hexit : ∀ y, P (.inr y) → mEv X M_L_stands 7 r w' 246 [some (vr v0), some (vr v1), some (vr v2), some (vr v3), none] [] y) : ∀ (n : Nat) (v4 : Int32) (w : mW) (e : (Int32 × mW) ⊕ (mW)), f_L_stands_L130 v0 v1 v2 v3 n v4 w = some e → P e → mEv X M_L_stands 7 r w' 130 [some (vr v0), some (vr v1), some (vr v2), some (vr v3), some (vi v4)] [] w := by
  intro n
  induction n with
  | zero =>
    intro v4 w e h hP
    rw [f_L_stands_L130] at h
    cases h
  | succ n hk =>
    intro v4 w e h hP
    rw [f_L_stands_L130] at h
    refine ev_iload (q := 132) dL_stands_130 rfl rfl ?_
    refine ev_aload_n (q := 133) dL_stands_132 rfl rfl ?_
    refine ev_iconst (q := 134) (v := (1 : Int32)) dL_stands_133 rfl (by decide) ?_
    replace h := Option.bind_eq_some_iff.mp h; obtain ⟨r1, hr1, h⟩ := h
    refine ev_aL dL_stands_134 hr1 rfl ?_
    by_cases hc : r1 ≤ v4
    · rw [if_pos hc] at h
      refine ev_icmp_ge_t (q := 246) dL_stands_135 (by decide) hc ?_
      cases h
      exact ev_weak _ (mLe_some (mLe_some (mLe_some (mLe_some (mLe_none mLe_nil))))) (hexit _ hP)
    · rw [if_neg hc] at h
      refine ev_icmp_ge_f (q := 138) (t0 := 246) dL_stands_135 (by decide) rfl hc ?_
      refine ev_aload_n (q := 139) dL_stands_138 rfl rfl ?_
      refine ev_iload (q := 141) dL_stands_139 rfl rfl ?_
      refine ev_iconst (q := 142) (v := (0 : Int32)) dL_stands_141 rfl (by decide) ?_
      replace h := Option.bind_eq_some_iff.mp h; obtain ⟨q3, hq3, h⟩ := h
      obtain ⟨hxq3, fsq3, hkq3⟩ := kO_spec hq3
      subst hxq3
      replace h := Option.bind_eq_some_iff.mp h; obtain ⟨r2, hr2, h⟩ := h
      refine ev_invV (M1 := M_X10_tosser) (as := [vi v4, vi ((0 : Int32))]) (fs := fsq3) (ci := 10) dL_stands_142 rfl tw_502 cal_X10_tosser tw_503 tw_504 (by decide) rfl rfl (Nat.le_of_ble_eq_true rfl) hkq3 rfl (met_X10_tosser q3 v4 (0 : Int32) w _ hr2) ?_
      refine ev_aload_n (q := 146) dL_stands_145 rfl rfl ?_
      refine ev_iconst (q := 147) (v := (2 : Int32)) dL_stands_146 rfl (by decide) ?_
      refine ev_iload (q := 149) dL_stands_147 rfl rfl ?_
      refine ev_iadd (q := 150) dL_stands_149 rfl ?_
      replace h := Option.bind_eq_some_iff.mp h; obtain ⟨r4, hr4, h⟩ := h
      refine ev_aL dL_stands_150 hr4 rfl ?_
      by_cases hc : r2 = r4
      · rw [if_pos hc] at h
        refine ev_icmp_ne_f (q := 154) (t0 := 225) dL_stands_151 (by decide) rfl hc ?_
        refine ev_aload_n (q := 155) dL_stands_154 rfl rfl ?_
        refine ev_iload (q := 157) dL_stands_155 rfl rfl ?_
        refine ev_iconst (q := 158) (v := (1 : Int32)) dL_stands_157 rfl (by decide) ?_
        replace h := Option.bind_eq_some_iff.mp h; obtain ⟨q6, hq6, h⟩ := h
        obtain ⟨hxq6, fsq6, hkq6⟩ := kO_spec hq6
        cases hxq6
        replace h := Option.bind_eq_some_iff.mp h; obtain ⟨r5, hr5, h⟩ := h
        refine ev_invV (M1 := M_X10_tosser) (as := [vi v4, vi ((1 : Int32))]) (fs := fsq6) (ci := 10) dL_stands_158 rfl tw_502 cal_X10_tosser tw_503 tw_504 (by decide) rfl rfl (Nat.le_of_ble_eq_true rfl) hkq6 rfl (met_X10_tosser q3 v4 (1 : Int32) w _ hr5) ?_
        refine ev_aload_n (q := 162) dL_stands_161 rfl rfl ?_
        refine ev_bipush (q := 164) (v := (24 : Int32)) dL_stands_162 rfl (by decide) ?_
        refine ev_iload (q := 166) dL_stands_164 rfl rfl ?_
        refine ev_iadd (q := 167) dL_stands_166 rfl ?_
        replace h := Option.bind_eq_some_iff.mp h; obtain ⟨r7, hr7, h⟩ := h
        refine ev_aL dL_stands_167 hr7 rfl ?_
        by_cases hc : r5 = r7
        · rw [if_pos hc] at h
          refine ev_icmp_ne_f (q := 171) (t0 := 225) dL_stands_168 (by decide) rfl hc ?_
          refine ev_aload_n (q := 172) dL_stands_171 rfl rfl ?_
          refine ev_iload (q := 174) dL_stands_172 rfl rfl ?_
          refine ev_iconst (q := 175) (v := (2 : Int32)) dL_stands_174 rfl (by decide) ?_
          replace h := Option.bind_eq_some_iff.mp h; obtain ⟨q9, hq9, h⟩ := h
          obtain ⟨hxq9, fsq9, hkq9⟩ := kO_spec hq9
          cases hxq9
          replace h := Option.bind_eq_some_iff.mp h; obtain ⟨r8, hr8, h⟩ := h
          refine ev_invV (M1 := M_X10_tosser) (as := [vi v4, vi ((2 : Int32))]) (fs := fsq9) (ci := 10) dL_stands_175 rfl tw_502 cal_X10_tosser tw_503 tw_504 (by decide) rfl rfl (Nat.le_of_ble_eq_true rfl) hkq9 rfl (met_X10_tosser q3 v4 (2 : Int32) w _ hr8) ?_
          refine ev_aload_n (q := 179) dL_stands_178 rfl rfl ?_
          refine ev_bipush (q := 181) (v := (28 : Int32)) dL_stands_179 rfl (by decide) ?_
          refine ev_iload (q := 183) dL_stands_181 rfl rfl ?_
          refine ev_iadd (q := 184) dL_stands_183 rfl ?_
          replace h := Option.bind_eq_some_iff.mp h; obtain ⟨r10, hr10, h⟩ := h
          refine ev_aL dL_stands_184 hr10 rfl ?_
          by_cases hc : r8 = r10
          · rw [if_pos hc] at h
            refine ev_icmp_ne_f (q := 188) (t0 := 225) dL_stands_185 (by decide) rfl hc ?_
            refine ev_aload_n (q := 189) dL_stands_188 rfl rfl ?_
            refine ev_iload (q := 191) dL_stands_189 rfl rfl ?_
            refine ev_iconst (q := 192) (v := (3 : Int32)) dL_stands_191 rfl (by decide) ?_
            replace h := Option.bind_eq_some_iff.mp h; obtain ⟨q12, hq12, h⟩ := h
            obtain ⟨hxq12, fsq12, hkq12⟩ := kO_spec hq12
            cases hxq12
            replace h := Option.bind_eq_some_iff.mp h; obtain ⟨r11, hr11, h⟩ := h
            refine ev_invV (M1 := M_X10_tosser) (as := [vi v4, vi ((3 : Int32))]) (fs := fsq12) (ci := 10) dL_stands_192 rfl tw_502 cal_X10_tosser tw_503 tw_504 (by decide) rfl rfl (Nat.le_of_ble_eq_true rfl) hkq12 rfl (met_X10_tosser q3 v4 (3 : Int32) w _ hr11) ?_
            refine ev_aload_n (q := 196) dL_stands_195 rfl rfl ?_
            refine ev_iconst (q := 197) (v := (2 : Int32)) dL_stands_196 rfl (by decide) ?_
            refine ev_iload (q := 199) dL_stands_197 rfl rfl ?_
            refine ev_iadd (q := 200) dL_stands_199 rfl ?_
            replace h := Option.bind_eq_some_iff.mp h; obtain ⟨r13, hr13, h⟩ := h
            refine ev_aL dL_stands_200 hr13 rfl ?_
            replace h := Option.bind_eq_some_iff.mp h; obtain ⟨r14, hr14, h⟩ := h
            refine ev_invS (M1 := M_L_batter) (as := [vi r13]) dL_stands_201 rfl tw_680 cal_L_batter tw_681 (by decide) rfl rfl (Nat.le_of_ble_eq_true rfl) (met_L_batter r13 w _ hr14) ?_
            by_cases hc : r11 = r14
            · rw [if_pos hc] at h
              refine ev_icmp_ne_f (q := 207) (t0 := 225) dL_stands_204 (by decide) rfl hc ?_
              refine ev_aload_n (q := 208) dL_stands_207 rfl rfl ?_
              refine ev_iload (q := 210) dL_stands_208 rfl rfl ?_
              refine ev_bipush (q := 212) (v := (8 : Int32)) dL_stands_210 rfl (by decide) ?_
              replace h := Option.bind_eq_some_iff.mp h; obtain ⟨q16, hq16, h⟩ := h
              obtain ⟨hxq16, fsq16, hkq16⟩ := kO_spec hq16
              cases hxq16
              replace h := Option.bind_eq_some_iff.mp h; obtain ⟨r15, hr15, h⟩ := h
              refine ev_invV (M1 := M_X10_tosser) (as := [vi v4, vi ((8 : Int32))]) (fs := fsq16) (ci := 10) dL_stands_212 rfl tw_502 cal_X10_tosser tw_503 tw_504 (by decide) rfl rfl (Nat.le_of_ble_eq_true rfl) hkq16 rfl (met_X10_tosser q3 v4 (8 : Int32) w _ hr15) ?_
              refine ev_aload_n (q := 216) dL_stands_215 rfl rfl ?_
              refine ev_bipush (q := 218) (v := (32 : Int32)) dL_stands_216 rfl (by decide) ?_
              refine ev_iload (q := 220) dL_stands_218 rfl rfl ?_
              refine ev_iadd (q := 221) dL_stands_220 rfl ?_
              replace h := Option.bind_eq_some_iff.mp h; obtain ⟨r17, hr17, h⟩ := h
              refine ev_aL dL_stands_221 hr17 rfl ?_
              by_cases hc : r15 = r17
              · rw [if_pos hc] at h
                refine ev_icmp_eq_t (q := 227) dL_stands_222 (by decide) hc ?_
                refine ev_aload_n (q := 228) dL_stands_227 rfl rfl ?_
                refine ev_iconst (q := 229) (v := (3 : Int32)) dL_stands_228 rfl (by decide) ?_
                refine ev_dup2 (q := 230) dL_stands_229 rfl rfl rfl ?_
                replace h := Option.bind_eq_some_iff.mp h; obtain ⟨r18, hr18, h⟩ := h
                refine ev_aL dL_stands_230 hr18 rfl ?_
                refine ev_aload_n (q := 232) dL_stands_231 rfl rfl ?_
                refine ev_bipush (q := 234) (v := (32 : Int32)) dL_stands_232 rfl (by decide) ?_
                refine ev_iload (q := 236) dL_stands_234 rfl rfl ?_
                refine ev_iadd (q := 237) dL_stands_236 rfl ?_
                replace h := Option.bind_eq_some_iff.mp h; obtain ⟨r19, hr19, h⟩ := h
                refine ev_aL dL_stands_237 hr19 rfl ?_
                refine ev_iadd (q := 239) dL_stands_238 rfl ?_
                replace h := Option.bind_eq_some_iff.mp h; obtain ⟨w20, hw20, h⟩ := h
                refine ev_aS dL_stands_239 hw20 rfl ?_
                refine ev_iinc (q := 243) (v := v4 + (1 : Int32)) dL_stands_240 rfl (by decide) rfl (by rfl) ?_
                refine ev_goto (q := 130) dL_stands_243 (by decide) ?_
                exact ev_weak _ (mLe_some (mLe_some (mLe_some (mLe_some (mLe_some mLe_nil))))) (hk (v4 + (1 : Int32)) w20 _ h hP)
              · rw [if_neg hc] at h
                refine ev_icmp_eq_f (q := 225) (t0 := 227) dL_stands_222 (by decide) rfl hc ?_
                exact ev_weak _ (mLe_none (mLe_none (mLe_none (mLe_none (mLe_none mLe_nil))))) (e_L_stands_J225 P w hret  _ h hP)
            · rw [if_neg hc] at h
              refine ev_icmp_ne_t (q := 225) dL_stands_204 (by decide) hc ?_
              exact ev_weak _ (mLe_none (mLe_none (mLe_none (mLe_none (mLe_none mLe_nil))))) (e_L_stands_J225 P w hret  _ h hP)
          · rw [if_neg hc] at h
            refine ev_icmp_ne_t (q := 225) dL_stands_185 (by decide) hc ?_
            exact ev_weak _ (mLe_none (mLe_none (mLe_none (mLe_none (mLe_none mLe_nil))))) (e_L_stands_J225 P w hret  _ h hP)
        · rw [if_neg hc] at h
          refine ev_icmp_ne_t (q := 225) dL_stands_168 (by decide) hc ?_
          exact ev_weak _ (mLe_none (mLe_none (mLe_none (mLe_none (mLe_none mLe_nil))))) (e_L_stands_J225 P w hret  _ h hP)
      · rw [if_neg hc] at h
        refine ev_icmp_ne_t (q := 225) dL_stands_151 (by decide) hc ?_
        exact ev_weak _ (mLe_none (mLe_none (mLe_none (mLe_none (mLe_none mLe_nil))))) (e_L_stands_J225 P w hret  _ h hP)
def f_L_stands_J80 (w : mW) : Option ((Int32 × mW) ⊕ (mW)) := some (.inl ((0 : Int32), w))
set_option maxRecDepth 100000 in
set_option maxHeartbeats 4000000 in
theorem e_L_stands_J80 {X : mXs} {r : Option mV} {w' : mW} (P : ((Int32 × mW) ⊕ (mW)) → Prop) (w : mW) (hret : ∀ y, P (.inl y) → r = (some (vi y.1)) ∧ w' = y.2) (e : (Int32 × mW) ⊕ (mW)) (h : f_L_stands_J80 w = some e) (hP : P e) : mEv X M_L_stands 7 r w' 80 [none, none, none, none, none] [] w := by
  unfold f_L_stands_J80 at h
  refine ev_iconst (q := 81) (v := (0 : Int32)) dL_stands_80 rfl (by decide) ?_
  cases h
  obtain ⟨hr1, hr2⟩ := hret _ hP
  subst hr1
  subst hr2
  exact ev_zret dL_stands_81 rfl (Or.inl rfl)
def f_L_stands_L7 (v0 : Option Nat) (v1 : Option Nat) (v2 : Option Nat) (v3 : Option Nat) : Nat → Int32 → mW → Option ((Int32 × mW) ⊕ (mW))
  | 0, _, _ => none
  | n + 1, v4, w => Option.bind (aL w v1 (0 : Int32)) fun r21 => if r21 ≤ v4 then (some (.inr w)) else (Option.bind (kO w v0 10) fun q23 => Option.bind (f_X10_sleeper q23 v4 (0 : Int32) w) fun r22 => Option.bind (aL r22.2 v2 v4) fun r24 => if r22.1 = r24 then (Option.bind (kO r22.2 (some q23) 10) fun _ => Option.bind (f_X10_sleeper q23 v4 (1 : Int32) r22.2) fun r25 => Option.bind (aL r25.2 v2 ((6 : Int32) + v4)) fun r27 => if r25.1 = r27 then (Option.bind (kO r25.2 (some q23) 10) fun _ => Option.bind (f_X10_sleeper q23 v4 (2 : Int32) r25.2) fun r28 => Option.bind (aL r28.2 v2 ((12 : Int32) + v4)) fun r30 => if r28.1 = r30 then (Option.bind (kO r28.2 (some q23) 10) fun _ => Option.bind (f_X10_sleeper q23 v4 (3 : Int32) r28.2) fun r31 => Option.bind (aL r31.2 v2 ((18 : Int32) + v4)) fun r33 => if r31.1 = r33 then (Option.bind (aL r31.2 v3 (0 : Int32)) fun r34 => Option.bind (aL r31.2 v2 ((6 : Int32) + v4)) fun r35 => Option.bind (aS r31.2 v3 (0 : Int32) (r34 + r35)) fun w36 => Option.bind (aL w36 v3 (1 : Int32)) fun r37 => Option.bind (aL w36 v2 ((12 : Int32) + v4)) fun r38 => Option.bind (aS w36 v3 (1 : Int32) (r37 + r38)) fun w39 => Option.bind (aL w39 v3 (2 : Int32)) fun r40 => Option.bind (aL w39 v2 ((18 : Int32) + v4)) fun r41 => Option.bind (aS w39 v3 (2 : Int32) (r40 + r41)) fun w42 => (f_L_stands_L7 v0 v1 v2 v3 n) (v4 + (1 : Int32)) w42) else (f_L_stands_J80 r31.2)) else (f_L_stands_J80 r28.2)) else (f_L_stands_J80 r25.2)) else (f_L_stands_J80 r22.2))
set_option maxRecDepth 100000 in
set_option maxHeartbeats 4000000 in
theorem e_L_stands_L7 {X : mXs} {r : Option mV} {w' : mW} (P : ((Int32 × mW) ⊕ (mW)) → Prop) (v0 : Option Nat) (v1 : Option Nat) (v2 : Option Nat) (v3 : Option Nat) (hret : ∀ y, P (.inl y) → r = (some (vi y.1)) ∧ w' = y.2) (hexit : ∀ y, P (.inr y) → mEv X M_L_stands 7 r w' 127 [some (vr v0), some (vr v1), some (vr v2), some (vr v3), none] [] y) : ∀ (n : Nat) (v4 : Int32) (w : mW) (e : (Int32 × mW) ⊕ (mW)), f_L_stands_L7 v0 v1 v2 v3 n v4 w = some e → P e → mEv X M_L_stands 7 r w' 7 [some (vr v0), some (vr v1), some (vr v2), some (vr v3), some (vi v4)] [] w := by
  intro n
  induction n with
  | zero =>
    intro v4 w e h hP
    rw [f_L_stands_L7] at h
    cases h
  | succ n hk =>
    intro v4 w e h hP
    rw [f_L_stands_L7] at h
    refine ev_iload (q := 9) dL_stands_7 rfl rfl ?_
    refine ev_aload_n (q := 10) dL_stands_9 rfl rfl ?_
    refine ev_iconst (q := 11) (v := (0 : Int32)) dL_stands_10 rfl (by decide) ?_
    replace h := Option.bind_eq_some_iff.mp h; obtain ⟨r21, hr21, h⟩ := h
    refine ev_aL dL_stands_11 hr21 rfl ?_
    by_cases hc : r21 ≤ v4
    · rw [if_pos hc] at h
      refine ev_icmp_ge_t (q := 127) dL_stands_12 (by decide) hc ?_
      cases h
      exact ev_weak _ (mLe_some (mLe_some (mLe_some (mLe_some (mLe_none mLe_nil))))) (hexit _ hP)
    · rw [if_neg hc] at h
      refine ev_icmp_ge_f (q := 15) (t0 := 127) dL_stands_12 (by decide) rfl hc ?_
      refine ev_aload_n (q := 16) dL_stands_15 rfl rfl ?_
      refine ev_iload (q := 18) dL_stands_16 rfl rfl ?_
      refine ev_iconst (q := 19) (v := (0 : Int32)) dL_stands_18 rfl (by decide) ?_
      replace h := Option.bind_eq_some_iff.mp h; obtain ⟨q23, hq23, h⟩ := h
      obtain ⟨hxq23, fsq23, hkq23⟩ := kO_spec hq23
      subst hxq23
      replace h := Option.bind_eq_some_iff.mp h; obtain ⟨r22, hr22, h⟩ := h
      refine ev_invV (M1 := M_X10_sleeper) (as := [vi v4, vi ((0 : Int32))]) (fs := fsq23) (ci := 10) dL_stands_19 rfl tw_444 cal_X10_sleeper tw_445 tw_446 (by decide) rfl rfl (Nat.le_of_ble_eq_true rfl) hkq23 rfl (met_X10_sleeper q23 v4 (0 : Int32) w _ hr22) ?_
      refine ev_aload_n (q := 23) dL_stands_22 rfl rfl ?_
      refine ev_iload (q := 25) dL_stands_23 rfl rfl ?_
      replace h := Option.bind_eq_some_iff.mp h; obtain ⟨r24, hr24, h⟩ := h
      refine ev_aL dL_stands_25 hr24 rfl ?_
      by_cases hc : r22.1 = r24
      · rw [if_pos hc] at h
        refine ev_icmp_ne_f (q := 29) (t0 := 80) dL_stands_26 (by decide) rfl hc ?_
        refine ev_aload_n (q := 30) dL_stands_29 rfl rfl ?_
        refine ev_iload (q := 32) dL_stands_30 rfl rfl ?_
        refine ev_iconst (q := 33) (v := (1 : Int32)) dL_stands_32 rfl (by decide) ?_
        replace h := Option.bind_eq_some_iff.mp h; obtain ⟨q26, hq26, h⟩ := h
        obtain ⟨hxq26, fsq26, hkq26⟩ := kO_spec hq26
        cases hxq26
        replace h := Option.bind_eq_some_iff.mp h; obtain ⟨r25, hr25, h⟩ := h
        refine ev_invV (M1 := M_X10_sleeper) (as := [vi v4, vi ((1 : Int32))]) (fs := fsq26) (ci := 10) dL_stands_33 rfl tw_444 cal_X10_sleeper tw_445 tw_446 (by decide) rfl rfl (Nat.le_of_ble_eq_true rfl) hkq26 rfl (met_X10_sleeper q23 v4 (1 : Int32) r22.2 _ hr25) ?_
        refine ev_aload_n (q := 37) dL_stands_36 rfl rfl ?_
        refine ev_bipush (q := 39) (v := (6 : Int32)) dL_stands_37 rfl (by decide) ?_
        refine ev_iload (q := 41) dL_stands_39 rfl rfl ?_
        refine ev_iadd (q := 42) dL_stands_41 rfl ?_
        replace h := Option.bind_eq_some_iff.mp h; obtain ⟨r27, hr27, h⟩ := h
        refine ev_aL dL_stands_42 hr27 rfl ?_
        by_cases hc : r25.1 = r27
        · rw [if_pos hc] at h
          refine ev_icmp_ne_f (q := 46) (t0 := 80) dL_stands_43 (by decide) rfl hc ?_
          refine ev_aload_n (q := 47) dL_stands_46 rfl rfl ?_
          refine ev_iload (q := 49) dL_stands_47 rfl rfl ?_
          refine ev_iconst (q := 50) (v := (2 : Int32)) dL_stands_49 rfl (by decide) ?_
          replace h := Option.bind_eq_some_iff.mp h; obtain ⟨q29, hq29, h⟩ := h
          obtain ⟨hxq29, fsq29, hkq29⟩ := kO_spec hq29
          cases hxq29
          replace h := Option.bind_eq_some_iff.mp h; obtain ⟨r28, hr28, h⟩ := h
          refine ev_invV (M1 := M_X10_sleeper) (as := [vi v4, vi ((2 : Int32))]) (fs := fsq29) (ci := 10) dL_stands_50 rfl tw_444 cal_X10_sleeper tw_445 tw_446 (by decide) rfl rfl (Nat.le_of_ble_eq_true rfl) hkq29 rfl (met_X10_sleeper q23 v4 (2 : Int32) r25.2 _ hr28) ?_
          refine ev_aload_n (q := 54) dL_stands_53 rfl rfl ?_
          refine ev_bipush (q := 56) (v := (12 : Int32)) dL_stands_54 rfl (by decide) ?_
          refine ev_iload (q := 58) dL_stands_56 rfl rfl ?_
          refine ev_iadd (q := 59) dL_stands_58 rfl ?_
          replace h := Option.bind_eq_some_iff.mp h; obtain ⟨r30, hr30, h⟩ := h
          refine ev_aL dL_stands_59 hr30 rfl ?_
          by_cases hc : r28.1 = r30
          · rw [if_pos hc] at h
            refine ev_icmp_ne_f (q := 63) (t0 := 80) dL_stands_60 (by decide) rfl hc ?_
            refine ev_aload_n (q := 64) dL_stands_63 rfl rfl ?_
            refine ev_iload (q := 66) dL_stands_64 rfl rfl ?_
            refine ev_iconst (q := 67) (v := (3 : Int32)) dL_stands_66 rfl (by decide) ?_
            replace h := Option.bind_eq_some_iff.mp h; obtain ⟨q32, hq32, h⟩ := h
            obtain ⟨hxq32, fsq32, hkq32⟩ := kO_spec hq32
            cases hxq32
            replace h := Option.bind_eq_some_iff.mp h; obtain ⟨r31, hr31, h⟩ := h
            refine ev_invV (M1 := M_X10_sleeper) (as := [vi v4, vi ((3 : Int32))]) (fs := fsq32) (ci := 10) dL_stands_67 rfl tw_444 cal_X10_sleeper tw_445 tw_446 (by decide) rfl rfl (Nat.le_of_ble_eq_true rfl) hkq32 rfl (met_X10_sleeper q23 v4 (3 : Int32) r28.2 _ hr31) ?_
            refine ev_aload_n (q := 71) dL_stands_70 rfl rfl ?_
            refine ev_bipush (q := 73) (v := (18 : Int32)) dL_stands_71 rfl (by decide) ?_
            refine ev_iload (q := 75) dL_stands_73 rfl rfl ?_
            refine ev_iadd (q := 76) dL_stands_75 rfl ?_
            replace h := Option.bind_eq_some_iff.mp h; obtain ⟨r33, hr33, h⟩ := h
            refine ev_aL dL_stands_76 hr33 rfl ?_
            by_cases hc : r31.1 = r33
            · rw [if_pos hc] at h
              refine ev_icmp_eq_t (q := 82) dL_stands_77 (by decide) hc ?_
              refine ev_aload_n (q := 83) dL_stands_82 rfl rfl ?_
              refine ev_iconst (q := 84) (v := (0 : Int32)) dL_stands_83 rfl (by decide) ?_
              refine ev_dup2 (q := 85) dL_stands_84 rfl rfl rfl ?_
              replace h := Option.bind_eq_some_iff.mp h; obtain ⟨r34, hr34, h⟩ := h
              refine ev_aL dL_stands_85 hr34 rfl ?_
              refine ev_aload_n (q := 87) dL_stands_86 rfl rfl ?_
              refine ev_bipush (q := 89) (v := (6 : Int32)) dL_stands_87 rfl (by decide) ?_
              refine ev_iload (q := 91) dL_stands_89 rfl rfl ?_
              refine ev_iadd (q := 92) dL_stands_91 rfl ?_
              replace h := Option.bind_eq_some_iff.mp h; obtain ⟨r35, hr35, h⟩ := h
              refine ev_aL dL_stands_92 hr35 rfl ?_
              refine ev_iadd (q := 94) dL_stands_93 rfl ?_
              replace h := Option.bind_eq_some_iff.mp h; obtain ⟨w36, hw36, h⟩ := h
              refine ev_aS dL_stands_94 hw36 rfl ?_
              refine ev_aload_n (q := 96) dL_stands_95 rfl rfl ?_
              refine ev_iconst (q := 97) (v := (1 : Int32)) dL_stands_96 rfl (by decide) ?_
              refine ev_dup2 (q := 98) dL_stands_97 rfl rfl rfl ?_
              replace h := Option.bind_eq_some_iff.mp h; obtain ⟨r37, hr37, h⟩ := h
              refine ev_aL dL_stands_98 hr37 rfl ?_
              refine ev_aload_n (q := 100) dL_stands_99 rfl rfl ?_
              refine ev_bipush (q := 102) (v := (12 : Int32)) dL_stands_100 rfl (by decide) ?_
              refine ev_iload (q := 104) dL_stands_102 rfl rfl ?_
              refine ev_iadd (q := 105) dL_stands_104 rfl ?_
              replace h := Option.bind_eq_some_iff.mp h; obtain ⟨r38, hr38, h⟩ := h
              refine ev_aL dL_stands_105 hr38 rfl ?_
              refine ev_iadd (q := 107) dL_stands_106 rfl ?_
              replace h := Option.bind_eq_some_iff.mp h; obtain ⟨w39, hw39, h⟩ := h
              refine ev_aS dL_stands_107 hw39 rfl ?_
              refine ev_aload_n (q := 109) dL_stands_108 rfl rfl ?_
              refine ev_iconst (q := 110) (v := (2 : Int32)) dL_stands_109 rfl (by decide) ?_
              refine ev_dup2 (q := 111) dL_stands_110 rfl rfl rfl ?_
              replace h := Option.bind_eq_some_iff.mp h; obtain ⟨r40, hr40, h⟩ := h
              refine ev_aL dL_stands_111 hr40 rfl ?_
              refine ev_aload_n (q := 113) dL_stands_112 rfl rfl ?_
              refine ev_bipush (q := 115) (v := (18 : Int32)) dL_stands_113 rfl (by decide) ?_
              refine ev_iload (q := 117) dL_stands_115 rfl rfl ?_
              refine ev_iadd (q := 118) dL_stands_117 rfl ?_
              replace h := Option.bind_eq_some_iff.mp h; obtain ⟨r41, hr41, h⟩ := h
              refine ev_aL dL_stands_118 hr41 rfl ?_
              refine ev_iadd (q := 120) dL_stands_119 rfl ?_
              replace h := Option.bind_eq_some_iff.mp h; obtain ⟨w42, hw42, h⟩ := h
              refine ev_aS dL_stands_120 hw42 rfl ?_
              refine ev_iinc (q := 124) (v := v4 + (1 : Int32)) dL_stands_121 rfl (by decide) rfl (by rfl) ?_
              refine ev_goto (q := 7) dL_stands_124 (by decide) ?_
              exact ev_weak _ (mLe_some (mLe_some (mLe_some (mLe_some (mLe_some mLe_nil))))) (hk (v4 + (1 : Int32)) w42 _ h hP)
            · rw [if_neg hc] at h
              refine ev_icmp_eq_f (q := 80) (t0 := 82) dL_stands_77 (by decide) rfl hc ?_
              exact ev_weak _ (mLe_none (mLe_none (mLe_none (mLe_none (mLe_none mLe_nil))))) (e_L_stands_J80 P r31.2 hret  _ h hP)
          · rw [if_neg hc] at h
            refine ev_icmp_ne_t (q := 80) dL_stands_60 (by decide) hc ?_
            exact ev_weak _ (mLe_none (mLe_none (mLe_none (mLe_none (mLe_none mLe_nil))))) (e_L_stands_J80 P r28.2 hret  _ h hP)
        · rw [if_neg hc] at h
          refine ev_icmp_ne_t (q := 80) dL_stands_43 (by decide) hc ?_
          exact ev_weak _ (mLe_none (mLe_none (mLe_none (mLe_none (mLe_none mLe_nil))))) (e_L_stands_J80 P r25.2 hret  _ h hP)
      · rw [if_neg hc] at h
        refine ev_icmp_ne_t (q := 80) dL_stands_26 (by decide) hc ?_
        exact ev_weak _ (mLe_none (mLe_none (mLe_none (mLe_none (mLe_none mLe_nil))))) (e_L_stands_J80 P r22.2 hret  _ h hP)
def f_L_stands (v0 : Option Nat) (v1 : Option Nat) (v2 : Option Nat) (w : mW) : Option (Int32 × mW) := Option.bind (some (w ++ [(.inr (.inl (4, fun _ => 0)) : mC)])) fun w43 => Option.bind (f_L_stands_L7 v0 v1 v2 (some w.length) mFuel (0 : Int32) w43) fun e44 => match e44 with | .inl y76 => some y76 | .inr y45 => Option.bind (f_L_stands_L130 v0 v1 v2 (some w.length) mFuel (0 : Int32) y45) fun e46 => match e46 with | .inl y75 => some y75 | .inr y47 => Option.bind (kO y47 v0 10) fun q49 => Option.bind (f_X10_count q49 (0 : Int32) y47) fun r48 => Option.bind (aL y47 v1 (0 : Int32)) fun r50 => if r48 = r50 then (Option.bind (kO y47 (some q49) 10) fun _ => Option.bind (f_X10_count q49 (1 : Int32) y47) fun r51 => Option.bind (aL y47 v1 (1 : Int32)) fun r53 => if r51 = r53 then (Option.bind (kO y47 (some q49) 10) fun _ => Option.bind (f_X10_count q49 (2 : Int32) y47) fun r54 => Option.bind (aL y47 (some w.length) (0 : Int32)) fun r56 => if r54 = r56 then (Option.bind (kO y47 (some q49) 10) fun _ => Option.bind (f_X10_count q49 (3 : Int32) y47) fun r57 => Option.bind (aL y47 v2 (37 : Int32)) fun r59 => if r57 = r59 then (Option.bind (kO y47 (some q49) 10) fun _ => Option.bind (f_X10_count q49 (4 : Int32) y47) fun r60 => Option.bind (aL y47 v2 (36 : Int32)) fun r62 => if r60 = r62 + (1 : Int32) then (Option.bind (kO y47 (some q49) 10) fun _ => Option.bind (f_X10_count q49 (5 : Int32) y47) fun r63 => Option.bind (aL y47 v2 (38 : Int32)) fun r65 => if r63 = r65 then (Option.bind (kO y47 (some q49) 10) fun _ => Option.bind (f_X10_count q49 (6 : Int32) y47) fun r66 => Option.bind (aL y47 (some w.length) (1 : Int32)) fun r68 => if r66 = r68 then (Option.bind (kO y47 (some q49) 10) fun _ => Option.bind (f_X10_count q49 (7 : Int32) y47) fun r69 => Option.bind (aL y47 (some w.length) (2 : Int32)) fun r71 => if r69 = r71 then (Option.bind (kO y47 (some q49) 10) fun _ => Option.bind (f_X10_count q49 (8 : Int32) y47) fun r72 => Option.bind (aL y47 (some w.length) (3 : Int32)) fun r74 => if r72 = r74 then (f_L_stands_J358 (1 : Int32) y47) else (f_L_stands_J357 y47)) else (f_L_stands_J357 y47)) else (f_L_stands_J357 y47)) else (f_L_stands_J357 y47)) else (f_L_stands_J357 y47)) else (f_L_stands_J357 y47)) else (f_L_stands_J357 y47)) else (f_L_stands_J357 y47)) else (f_L_stands_J357 y47)
set_option maxRecDepth 100000 in
set_option maxHeartbeats 4000000 in
theorem met_L_stands (v0 : Option Nat) (v1 : Option Nat) (v2 : Option Nat) (w : mW) (res : Int32 × mW) (h : f_L_stands v0 v1 v2 w = some res) : mMet M_L_stands 7 [vr v0, vr v1, vr v2] w (some (vi res.1)) res.2 := by
  refine ev_met (n := 2) (by decide) rfl fun X => ?_
  unfold f_L_stands at h
  show mEv X M_L_stands 7 _ _ 0 [some (vr v0), some (vr v1), some (vr v2), none, none] [] w
  refine ev_iconst (q := 1) (v := (4 : Int32)) dL_stands_0 rfl (by decide) ?_
  replace h := Option.bind_eq_some_iff.mp h; obtain ⟨w43, hw43, h⟩ := h
  cases hw43
  refine ev_newi (N := 4) dL_stands_1 rfl tw_67 (by decide) (by decide) (by decide) ?_
  refine ev_astore_n (q := 4) dL_stands_3 rfl (by decide) ?_
  refine ev_iconst (q := 5) (v := (0 : Int32)) dL_stands_4 rfl (by decide) ?_
  refine ev_istore (q := 7) dL_stands_5 rfl (by decide) ?_
  replace h := Option.bind_eq_some_iff.mp h; obtain ⟨e44, he44, h⟩ := h
  refine ev_weak _ (mLe_some (mLe_some (mLe_some (mLe_some (mLe_some mLe_nil))))) (e_L_stands_L7 (fun z => e44 = z) v0 v1 v2 (some w.length) (fun y76 hq => ?_) (fun y45 hq => ?_) mFuel (0 : Int32) (w ++ [(.inr (.inl (4, fun _ => 0)) : mC)]) _ he44 rfl)
  · subst hq
    dsimp only at h
    cases h
    exact ⟨rfl, rfl⟩
  · subst hq
    dsimp only at h
    refine ev_iconst (q := 128) (v := (0 : Int32)) dL_stands_127 rfl (by decide) ?_
    refine ev_istore (q := 130) dL_stands_128 rfl (by decide) ?_
    replace h := Option.bind_eq_some_iff.mp h; obtain ⟨e46, he46, h⟩ := h
    refine ev_weak _ (mLe_some (mLe_some (mLe_some (mLe_some (mLe_some mLe_nil))))) (e_L_stands_L130 (fun z => e46 = z) v0 v1 v2 (some w.length) (fun y75 hq => ?_) (fun y47 hq => ?_) mFuel (0 : Int32) y45 _ he46 rfl)
    · subst hq
      dsimp only at h
      cases h
      exact ⟨rfl, rfl⟩
    · subst hq
      dsimp only at h
      refine ev_aload_n (q := 247) dL_stands_246 rfl rfl ?_
      refine ev_iconst (q := 248) (v := (0 : Int32)) dL_stands_247 rfl (by decide) ?_
      replace h := Option.bind_eq_some_iff.mp h; obtain ⟨q49, hq49, h⟩ := h
      obtain ⟨hxq49, fsq49, hkq49⟩ := kO_spec hq49
      subst hxq49
      replace h := Option.bind_eq_some_iff.mp h; obtain ⟨r48, hr48, h⟩ := h
      refine ev_invV (M1 := M_X10_count) (as := [vi ((0 : Int32))]) (fs := fsq49) (ci := 10) dL_stands_248 rfl tw_683 cal_X10_count tw_684 tw_685 (by decide) rfl rfl (Nat.le_of_ble_eq_true rfl) hkq49 rfl (met_X10_count q49 (0 : Int32) y47 _ hr48) ?_
      refine ev_aload_n (q := 252) dL_stands_251 rfl rfl ?_
      refine ev_iconst (q := 253) (v := (0 : Int32)) dL_stands_252 rfl (by decide) ?_
      replace h := Option.bind_eq_some_iff.mp h; obtain ⟨r50, hr50, h⟩ := h
      refine ev_aL dL_stands_253 hr50 rfl ?_
      by_cases hc : r48 = r50
      · rw [if_pos hc] at h
        refine ev_icmp_ne_f (q := 257) (t0 := 357) dL_stands_254 (by decide) rfl hc ?_
        refine ev_aload_n (q := 258) dL_stands_257 rfl rfl ?_
        refine ev_iconst (q := 259) (v := (1 : Int32)) dL_stands_258 rfl (by decide) ?_
        replace h := Option.bind_eq_some_iff.mp h; obtain ⟨q52, hq52, h⟩ := h
        obtain ⟨hxq52, fsq52, hkq52⟩ := kO_spec hq52
        cases hxq52
        replace h := Option.bind_eq_some_iff.mp h; obtain ⟨r51, hr51, h⟩ := h
        refine ev_invV (M1 := M_X10_count) (as := [vi ((1 : Int32))]) (fs := fsq52) (ci := 10) dL_stands_259 rfl tw_683 cal_X10_count tw_684 tw_685 (by decide) rfl rfl (Nat.le_of_ble_eq_true rfl) hkq52 rfl (met_X10_count q49 (1 : Int32) y47 _ hr51) ?_
        refine ev_aload_n (q := 263) dL_stands_262 rfl rfl ?_
        refine ev_iconst (q := 264) (v := (1 : Int32)) dL_stands_263 rfl (by decide) ?_
        replace h := Option.bind_eq_some_iff.mp h; obtain ⟨r53, hr53, h⟩ := h
        refine ev_aL dL_stands_264 hr53 rfl ?_
        by_cases hc : r51 = r53
        · rw [if_pos hc] at h
          refine ev_icmp_ne_f (q := 268) (t0 := 357) dL_stands_265 (by decide) rfl hc ?_
          refine ev_aload_n (q := 269) dL_stands_268 rfl rfl ?_
          refine ev_iconst (q := 270) (v := (2 : Int32)) dL_stands_269 rfl (by decide) ?_
          replace h := Option.bind_eq_some_iff.mp h; obtain ⟨q55, hq55, h⟩ := h
          obtain ⟨hxq55, fsq55, hkq55⟩ := kO_spec hq55
          cases hxq55
          replace h := Option.bind_eq_some_iff.mp h; obtain ⟨r54, hr54, h⟩ := h
          refine ev_invV (M1 := M_X10_count) (as := [vi ((2 : Int32))]) (fs := fsq55) (ci := 10) dL_stands_270 rfl tw_683 cal_X10_count tw_684 tw_685 (by decide) rfl rfl (Nat.le_of_ble_eq_true rfl) hkq55 rfl (met_X10_count q49 (2 : Int32) y47 _ hr54) ?_
          refine ev_aload_n (q := 274) dL_stands_273 rfl rfl ?_
          refine ev_iconst (q := 275) (v := (0 : Int32)) dL_stands_274 rfl (by decide) ?_
          replace h := Option.bind_eq_some_iff.mp h; obtain ⟨r56, hr56, h⟩ := h
          refine ev_aL dL_stands_275 hr56 rfl ?_
          by_cases hc : r54 = r56
          · rw [if_pos hc] at h
            refine ev_icmp_ne_f (q := 279) (t0 := 357) dL_stands_276 (by decide) rfl hc ?_
            refine ev_aload_n (q := 280) dL_stands_279 rfl rfl ?_
            refine ev_iconst (q := 281) (v := (3 : Int32)) dL_stands_280 rfl (by decide) ?_
            replace h := Option.bind_eq_some_iff.mp h; obtain ⟨q58, hq58, h⟩ := h
            obtain ⟨hxq58, fsq58, hkq58⟩ := kO_spec hq58
            cases hxq58
            replace h := Option.bind_eq_some_iff.mp h; obtain ⟨r57, hr57, h⟩ := h
            refine ev_invV (M1 := M_X10_count) (as := [vi ((3 : Int32))]) (fs := fsq58) (ci := 10) dL_stands_281 rfl tw_683 cal_X10_count tw_684 tw_685 (by decide) rfl rfl (Nat.le_of_ble_eq_true rfl) hkq58 rfl (met_X10_count q49 (3 : Int32) y47 _ hr57) ?_
            refine ev_aload_n (q := 285) dL_stands_284 rfl rfl ?_
            refine ev_bipush (q := 287) (v := (37 : Int32)) dL_stands_285 rfl (by decide) ?_
            replace h := Option.bind_eq_some_iff.mp h; obtain ⟨r59, hr59, h⟩ := h
            refine ev_aL dL_stands_287 hr59 rfl ?_
            by_cases hc : r57 = r59
            · rw [if_pos hc] at h
              refine ev_icmp_ne_f (q := 291) (t0 := 357) dL_stands_288 (by decide) rfl hc ?_
              refine ev_aload_n (q := 292) dL_stands_291 rfl rfl ?_
              refine ev_iconst (q := 293) (v := (4 : Int32)) dL_stands_292 rfl (by decide) ?_
              replace h := Option.bind_eq_some_iff.mp h; obtain ⟨q61, hq61, h⟩ := h
              obtain ⟨hxq61, fsq61, hkq61⟩ := kO_spec hq61
              cases hxq61
              replace h := Option.bind_eq_some_iff.mp h; obtain ⟨r60, hr60, h⟩ := h
              refine ev_invV (M1 := M_X10_count) (as := [vi ((4 : Int32))]) (fs := fsq61) (ci := 10) dL_stands_293 rfl tw_683 cal_X10_count tw_684 tw_685 (by decide) rfl rfl (Nat.le_of_ble_eq_true rfl) hkq61 rfl (met_X10_count q49 (4 : Int32) y47 _ hr60) ?_
              refine ev_aload_n (q := 297) dL_stands_296 rfl rfl ?_
              refine ev_bipush (q := 299) (v := (36 : Int32)) dL_stands_297 rfl (by decide) ?_
              replace h := Option.bind_eq_some_iff.mp h; obtain ⟨r62, hr62, h⟩ := h
              refine ev_aL dL_stands_299 hr62 rfl ?_
              refine ev_iconst (q := 301) (v := (1 : Int32)) dL_stands_300 rfl (by decide) ?_
              refine ev_iadd (q := 302) dL_stands_301 rfl ?_
              by_cases hc : r60 = r62 + (1 : Int32)
              · rw [if_pos hc] at h
                refine ev_icmp_ne_f (q := 305) (t0 := 357) dL_stands_302 (by decide) rfl hc ?_
                refine ev_aload_n (q := 306) dL_stands_305 rfl rfl ?_
                refine ev_iconst (q := 307) (v := (5 : Int32)) dL_stands_306 rfl (by decide) ?_
                replace h := Option.bind_eq_some_iff.mp h; obtain ⟨q64, hq64, h⟩ := h
                obtain ⟨hxq64, fsq64, hkq64⟩ := kO_spec hq64
                cases hxq64
                replace h := Option.bind_eq_some_iff.mp h; obtain ⟨r63, hr63, h⟩ := h
                refine ev_invV (M1 := M_X10_count) (as := [vi ((5 : Int32))]) (fs := fsq64) (ci := 10) dL_stands_307 rfl tw_683 cal_X10_count tw_684 tw_685 (by decide) rfl rfl (Nat.le_of_ble_eq_true rfl) hkq64 rfl (met_X10_count q49 (5 : Int32) y47 _ hr63) ?_
                refine ev_aload_n (q := 311) dL_stands_310 rfl rfl ?_
                refine ev_bipush (q := 313) (v := (38 : Int32)) dL_stands_311 rfl (by decide) ?_
                replace h := Option.bind_eq_some_iff.mp h; obtain ⟨r65, hr65, h⟩ := h
                refine ev_aL dL_stands_313 hr65 rfl ?_
                by_cases hc : r63 = r65
                · rw [if_pos hc] at h
                  refine ev_icmp_ne_f (q := 317) (t0 := 357) dL_stands_314 (by decide) rfl hc ?_
                  refine ev_aload_n (q := 318) dL_stands_317 rfl rfl ?_
                  refine ev_bipush (q := 320) (v := (6 : Int32)) dL_stands_318 rfl (by decide) ?_
                  replace h := Option.bind_eq_some_iff.mp h; obtain ⟨q67, hq67, h⟩ := h
                  obtain ⟨hxq67, fsq67, hkq67⟩ := kO_spec hq67
                  cases hxq67
                  replace h := Option.bind_eq_some_iff.mp h; obtain ⟨r66, hr66, h⟩ := h
                  refine ev_invV (M1 := M_X10_count) (as := [vi ((6 : Int32))]) (fs := fsq67) (ci := 10) dL_stands_320 rfl tw_683 cal_X10_count tw_684 tw_685 (by decide) rfl rfl (Nat.le_of_ble_eq_true rfl) hkq67 rfl (met_X10_count q49 (6 : Int32) y47 _ hr66) ?_
                  refine ev_aload_n (q := 324) dL_stands_323 rfl rfl ?_
                  refine ev_iconst (q := 325) (v := (1 : Int32)) dL_stands_324 rfl (by decide) ?_
                  replace h := Option.bind_eq_some_iff.mp h; obtain ⟨r68, hr68, h⟩ := h
                  refine ev_aL dL_stands_325 hr68 rfl ?_
                  by_cases hc : r66 = r68
                  · rw [if_pos hc] at h
                    refine ev_icmp_ne_f (q := 329) (t0 := 357) dL_stands_326 (by decide) rfl hc ?_
                    refine ev_aload_n (q := 330) dL_stands_329 rfl rfl ?_
                    refine ev_bipush (q := 332) (v := (7 : Int32)) dL_stands_330 rfl (by decide) ?_
                    replace h := Option.bind_eq_some_iff.mp h; obtain ⟨q70, hq70, h⟩ := h
                    obtain ⟨hxq70, fsq70, hkq70⟩ := kO_spec hq70
                    cases hxq70
                    replace h := Option.bind_eq_some_iff.mp h; obtain ⟨r69, hr69, h⟩ := h
                    refine ev_invV (M1 := M_X10_count) (as := [vi ((7 : Int32))]) (fs := fsq70) (ci := 10) dL_stands_332 rfl tw_683 cal_X10_count tw_684 tw_685 (by decide) rfl rfl (Nat.le_of_ble_eq_true rfl) hkq70 rfl (met_X10_count q49 (7 : Int32) y47 _ hr69) ?_
                    refine ev_aload_n (q := 336) dL_stands_335 rfl rfl ?_
                    refine ev_iconst (q := 337) (v := (2 : Int32)) dL_stands_336 rfl (by decide) ?_
                    replace h := Option.bind_eq_some_iff.mp h; obtain ⟨r71, hr71, h⟩ := h
                    refine ev_aL dL_stands_337 hr71 rfl ?_
                    by_cases hc : r69 = r71
                    · rw [if_pos hc] at h
                      refine ev_icmp_ne_f (q := 341) (t0 := 357) dL_stands_338 (by decide) rfl hc ?_
                      refine ev_aload_n (q := 342) dL_stands_341 rfl rfl ?_
                      refine ev_bipush (q := 344) (v := (8 : Int32)) dL_stands_342 rfl (by decide) ?_
                      replace h := Option.bind_eq_some_iff.mp h; obtain ⟨q73, hq73, h⟩ := h
                      obtain ⟨hxq73, fsq73, hkq73⟩ := kO_spec hq73
                      cases hxq73
                      replace h := Option.bind_eq_some_iff.mp h; obtain ⟨r72, hr72, h⟩ := h
                      refine ev_invV (M1 := M_X10_count) (as := [vi ((8 : Int32))]) (fs := fsq73) (ci := 10) dL_stands_344 rfl tw_683 cal_X10_count tw_684 tw_685 (by decide) rfl rfl (Nat.le_of_ble_eq_true rfl) hkq73 rfl (met_X10_count q49 (8 : Int32) y47 _ hr72) ?_
                      refine ev_aload_n (q := 348) dL_stands_347 rfl rfl ?_
                      refine ev_iconst (q := 349) (v := (3 : Int32)) dL_stands_348 rfl (by decide) ?_
                      replace h := Option.bind_eq_some_iff.mp h; obtain ⟨r74, hr74, h⟩ := h
                      refine ev_aL dL_stands_349 hr74 rfl ?_
                      by_cases hc : r72 = r74
                      · rw [if_pos hc] at h
                        refine ev_icmp_ne_f (q := 353) (t0 := 357) dL_stands_350 (by decide) rfl hc ?_
                        refine ev_iconst (q := 354) (v := (1 : Int32)) dL_stands_353 rfl (by decide) ?_
                        refine ev_goto (q := 358) dL_stands_354 (by decide) ?_
                        exact ev_weak _ (mLe_none (mLe_none (mLe_none (mLe_none (mLe_none mLe_nil))))) (e_L_stands_J358 (1 : Int32) y47 _ h)
                      · rw [if_neg hc] at h
                        refine ev_icmp_ne_t (q := 357) dL_stands_350 (by decide) hc ?_
                        exact ev_weak _ (mLe_none (mLe_none (mLe_none (mLe_none (mLe_none mLe_nil))))) (e_L_stands_J357 y47 _ h)
                    · rw [if_neg hc] at h
                      refine ev_icmp_ne_t (q := 357) dL_stands_338 (by decide) hc ?_
                      exact ev_weak _ (mLe_none (mLe_none (mLe_none (mLe_none (mLe_none mLe_nil))))) (e_L_stands_J357 y47 _ h)
                  · rw [if_neg hc] at h
                    refine ev_icmp_ne_t (q := 357) dL_stands_326 (by decide) hc ?_
                    exact ev_weak _ (mLe_none (mLe_none (mLe_none (mLe_none (mLe_none mLe_nil))))) (e_L_stands_J357 y47 _ h)
                · rw [if_neg hc] at h
                  refine ev_icmp_ne_t (q := 357) dL_stands_314 (by decide) hc ?_
                  exact ev_weak _ (mLe_none (mLe_none (mLe_none (mLe_none (mLe_none mLe_nil))))) (e_L_stands_J357 y47 _ h)
              · rw [if_neg hc] at h
                refine ev_icmp_ne_t (q := 357) dL_stands_302 (by decide) hc ?_
                exact ev_weak _ (mLe_none (mLe_none (mLe_none (mLe_none (mLe_none mLe_nil))))) (e_L_stands_J357 y47 _ h)
            · rw [if_neg hc] at h
              refine ev_icmp_ne_t (q := 357) dL_stands_288 (by decide) hc ?_
              exact ev_weak _ (mLe_none (mLe_none (mLe_none (mLe_none (mLe_none mLe_nil))))) (e_L_stands_J357 y47 _ h)
          · rw [if_neg hc] at h
            refine ev_icmp_ne_t (q := 357) dL_stands_276 (by decide) hc ?_
            exact ev_weak _ (mLe_none (mLe_none (mLe_none (mLe_none (mLe_none mLe_nil))))) (e_L_stands_J357 y47 _ h)
        · rw [if_neg hc] at h
          refine ev_icmp_ne_t (q := 357) dL_stands_265 (by decide) hc ?_
          exact ev_weak _ (mLe_none (mLe_none (mLe_none (mLe_none (mLe_none mLe_nil))))) (e_L_stands_J357 y47 _ h)
      · rw [if_neg hc] at h
        refine ev_icmp_ne_t (q := 357) dL_stands_254 (by decide) hc ?_
        exact ev_weak _ (mLe_none (mLe_none (mLe_none (mLe_none (mLe_none mLe_nil))))) (e_L_stands_J357 y47 _ h)
