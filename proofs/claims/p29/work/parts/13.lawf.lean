def f_L_lies_J233 (kc : Int32 → Int32 → Option (Int32)) (v0 : Option Nat) (v1 : Option Nat) (v2 : Option Nat) (v3 : Int32) (v4 : Int32) (v5 : Int32) (v6 : Int32) (v7 : Int32) (v8 : Int32) (w : mW) : Option (Int32) := kc v7 (v8 + (1 : Int32))
set_option maxRecDepth 100000 in
set_option maxHeartbeats 4000000 in
theorem e_L_lies_J233 {X : mXs} {r : Option mV} {w' : mW} (P : (Int32) → Prop) (v0 : Option Nat) (v1 : Option Nat) (v2 : Option Nat) (v3 : Int32) (v4 : Int32) (v5 : Int32) (v6 : Int32) (v7 : Int32) (v8 : Int32) (w : mW) (kc : Int32 → Int32 → Option (Int32)) (hk : ∀ (u7 : Int32) (u8 : Int32) (e : Int32), kc u7 u8 = some e → P e → mEv X M_L_lies 5 r w' 153 [some (vr v0), some (vr v1), some (vr v2), some (vi v3), some (vi v4), some (vi v5), some (vi v6), some (vi u7), some (vi u8), none, none] [] w) (e : Int32) (h : f_L_lies_J233 kc v0 v1 v2 v3 v4 v5 v6 v7 v8 w = some e) (hP : P e) : mEv X M_L_lies 5 r w' 233 [some (vr v0), some (vr v1), some (vr v2), some (vi v3), some (vi v4), some (vi v5), some (vi v6), some (vi v7), some (vi v8), none, none] [] w := by
  unfold f_L_lies_J233 at h
  refine ev_iinc (q := 236) (v := v8 + (1 : Int32)) dL_lies_233 rfl (by decide) rfl (by rfl) ?_
  refine ev_goto (q := 153) dL_lies_236 (by decide) ?_
  exact ev_weak _ (mLe_some (mLe_some (mLe_some (mLe_some (mLe_some (mLe_some (mLe_some (mLe_some (mLe_some (mLe_none (mLe_none mLe_nil))))))))))) (hk v7 (v8 + (1 : Int32)) _ h hP)
def f_L_lies_L153 (v0 : Option Nat) (v1 : Option Nat) (v2 : Option Nat) (v3 : Int32) (v4 : Int32) (v5 : Int32) (v6 : Int32) (w : mW) : Nat → Int32 → Int32 → Option (Int32)
  | 0, _, _ => none
  | n + 1, v7, v8 => Option.bind (aL w v1 (1 : Int32)) fun r1 => if r1 ≤ v8 then (some (v7)) else (Option.bind (aL w v2 ((24 : Int32) + v8)) fun r2 => Option.bind (aL w v2 ((28 : Int32) + v8)) fun r3 => Option.bind (aL w v2 (36 : Int32)) fun r4 => if ((v6 / (6 : Int32)) - r2) + (2 : Int32) < 0 then (f_L_lies_J233 (f_L_lies_L153 v0 v1 v2 v3 v4 v5 v6 w n) v0 v1 v2 v3 v4 v5 v6 v7 v8 w) else (if (6 : Int32) ≤ ((v6 / (6 : Int32)) - r2) + (2 : Int32) then (f_L_lies_J233 (f_L_lies_L153 v0 v1 v2 v3 v4 v5 v6 w n) v0 v1 v2 v3 v4 v5 v6 v7 v8 w) else (if (((v6 - v6 / (6 : Int32) * (6 : Int32)) - r3) + (2 : Int32)) - r4 < 0 then (f_L_lies_J233 (f_L_lies_L153 v0 v1 v2 v3 v4 v5 v6 w n) v0 v1 v2 v3 v4 v5 v6 v7 v8 w) else (if (6 : Int32) ≤ (((v6 - v6 / (6 : Int32) * (6 : Int32)) - r3) + (2 : Int32)) - r4 then (f_L_lies_J233 (f_L_lies_L153 v0 v1 v2 v3 v4 v5 v6 w n) v0 v1 v2 v3 v4 v5 v6 v7 v8 w) else (f_L_lies_J233 (f_L_lies_L153 v0 v1 v2 v3 v4 v5 v6 w n) v0 v1 v2 v3 v4 v5 v6 (v7 ||| ((1 : Int32) <<< (v8 &&& 31))) v8 w)))))
set_option maxRecDepth 100000 in
set_option maxHeartbeats 4000000 in
theorem e_L_lies_L153 {X : mXs} {r : Option mV} {w' : mW} (P : (Int32) → Prop) (v0 : Option Nat) (v1 : Option Nat) (v2 : Option Nat) (v3 : Int32) (v4 : Int32) (v5 : Int32) (v6 : Int32) (w : mW) (hexit : ∀ y, P y → mEv X M_L_lies 5 r w' 239 [some (vr v0), some (vr v1), some (vr v2), some (vi v3), some (vi v4), some (vi v5), some (vi v6), some (vi y), none, none, none] [] w) : ∀ (n : Nat) (v7 : Int32) (v8 : Int32) (e : Int32), f_L_lies_L153 v0 v1 v2 v3 v4 v5 v6 w n v7 v8 = some e → P e → mEv X M_L_lies 5 r w' 153 [some (vr v0), some (vr v1), some (vr v2), some (vi v3), some (vi v4), some (vi v5), some (vi v6), some (vi v7), some (vi v8), none, none] [] w := by
  intro n
  induction n with
  | zero =>
    intro v7 v8 e h hP
    rw [f_L_lies_L153] at h
    cases h
  | succ n hk =>
    intro v7 v8 e h hP
    rw [f_L_lies_L153] at h
    refine ev_iload (q := 155) dL_lies_153 rfl rfl ?_
    refine ev_aload_n (q := 156) dL_lies_155 rfl rfl ?_
    refine ev_iconst (q := 157) (v := (1 : Int32)) dL_lies_156 rfl (by decide) ?_
    replace h := Option.bind_eq_some_iff.mp h; obtain ⟨r1, hr1, h⟩ := h
    refine ev_aL dL_lies_157 hr1 rfl ?_
    by_cases hc : r1 ≤ v8
    · rw [if_pos hc] at h
      refine ev_icmp_ge_t (q := 239) dL_lies_158 (by decide) hc ?_
      cases h
      exact ev_weak _ (mLe_some (mLe_some (mLe_some (mLe_some (mLe_some (mLe_some (mLe_some (mLe_some (mLe_none (mLe_none (mLe_none mLe_nil))))))))))) (hexit _ hP)
    · rw [if_neg hc] at h
      refine ev_icmp_ge_f (q := 161) (t0 := 239) dL_lies_158 (by decide) rfl hc ?_
      refine ev_iload (q := 163) dL_lies_161 rfl rfl ?_
      refine ev_bipush (q := 165) (v := (6 : Int32)) dL_lies_163 rfl (by decide) ?_
      refine ev_idiv (q := 166) dL_lies_165 rfl (by decide) ?_
      refine ev_aload_n (q := 167) dL_lies_166 rfl rfl ?_
      refine ev_bipush (q := 169) (v := (24 : Int32)) dL_lies_167 rfl (by decide) ?_
      refine ev_iload (q := 171) dL_lies_169 rfl rfl ?_
      refine ev_iadd (q := 172) dL_lies_171 rfl ?_
      replace h := Option.bind_eq_some_iff.mp h; obtain ⟨r2, hr2, h⟩ := h
      refine ev_aL dL_lies_172 hr2 rfl ?_
      refine ev_isub (q := 174) dL_lies_173 rfl ?_
      refine ev_iconst (q := 175) (v := (2 : Int32)) dL_lies_174 rfl (by decide) ?_
      refine ev_iadd (q := 176) dL_lies_175 rfl ?_
      refine ev_istore (q := 178) dL_lies_176 rfl (by decide) ?_
      refine ev_iload (q := 180) dL_lies_178 rfl rfl ?_
      refine ev_bipush (q := 182) (v := (6 : Int32)) dL_lies_180 rfl (by decide) ?_
      refine ev_irem (q := 183) dL_lies_182 rfl (by decide) ?_
      refine ev_aload_n (q := 184) dL_lies_183 rfl rfl ?_
      refine ev_bipush (q := 186) (v := (28 : Int32)) dL_lies_184 rfl (by decide) ?_
      refine ev_iload (q := 188) dL_lies_186 rfl rfl ?_
      refine ev_iadd (q := 189) dL_lies_188 rfl ?_
      replace h := Option.bind_eq_some_iff.mp h; obtain ⟨r3, hr3, h⟩ := h
      refine ev_aL dL_lies_189 hr3 rfl ?_
      refine ev_isub (q := 191) dL_lies_190 rfl ?_
      refine ev_iconst (q := 192) (v := (2 : Int32)) dL_lies_191 rfl (by decide) ?_
      refine ev_iadd (q := 193) dL_lies_192 rfl ?_
      refine ev_aload_n (q := 194) dL_lies_193 rfl rfl ?_
      refine ev_bipush (q := 196) (v := (36 : Int32)) dL_lies_194 rfl (by decide) ?_
      replace h := Option.bind_eq_some_iff.mp h; obtain ⟨r4, hr4, h⟩ := h
      refine ev_aL dL_lies_196 hr4 rfl ?_
      refine ev_isub (q := 198) dL_lies_197 rfl ?_
      refine ev_istore (q := 200) dL_lies_198 rfl (by decide) ?_
      refine ev_iload (q := 202) dL_lies_200 rfl rfl ?_
      by_cases hc : ((v6 / (6 : Int32)) - r2) + (2 : Int32) < 0
      · rw [if_pos hc] at h
        refine ev_if_lt_t (q := 233) dL_lies_202 (by decide) hc ?_
        exact ev_weak _ (mLe_some (mLe_some (mLe_some (mLe_some (mLe_some (mLe_some (mLe_some (mLe_some (mLe_some (mLe_none (mLe_none mLe_nil))))))))))) (e_L_lies_J233 P v0 v1 v2 v3 v4 v5 v6 v7 v8 w _ hk  _ h hP)
      · rw [if_neg hc] at h
        refine ev_if_lt_f (q := 205) (t0 := 233) dL_lies_202 (by decide) rfl hc ?_
        refine ev_iload (q := 207) dL_lies_205 rfl rfl ?_
        refine ev_bipush (q := 209) (v := (6 : Int32)) dL_lies_207 rfl (by decide) ?_
        by_cases hc : (6 : Int32) ≤ ((v6 / (6 : Int32)) - r2) + (2 : Int32)
        · rw [if_pos hc] at h
          refine ev_icmp_ge_t (q := 233) dL_lies_209 (by decide) hc ?_
          exact ev_weak _ (mLe_some (mLe_some (mLe_some (mLe_some (mLe_some (mLe_some (mLe_some (mLe_some (mLe_some (mLe_none (mLe_none mLe_nil))))))))))) (e_L_lies_J233 P v0 v1 v2 v3 v4 v5 v6 v7 v8 w _ hk  _ h hP)
        · rw [if_neg hc] at h
          refine ev_icmp_ge_f (q := 212) (t0 := 233) dL_lies_209 (by decide) rfl hc ?_
          refine ev_iload (q := 214) dL_lies_212 rfl rfl ?_
          by_cases hc : (((v6 - v6 / (6 : Int32) * (6 : Int32)) - r3) + (2 : Int32)) - r4 < 0
          · rw [if_pos hc] at h
            refine ev_if_lt_t (q := 233) dL_lies_214 (by decide) hc ?_
            exact ev_weak _ (mLe_some (mLe_some (mLe_some (mLe_some (mLe_some (mLe_some (mLe_some (mLe_some (mLe_some (mLe_none (mLe_none mLe_nil))))))))))) (e_L_lies_J233 P v0 v1 v2 v3 v4 v5 v6 v7 v8 w _ hk  _ h hP)
          · rw [if_neg hc] at h
            refine ev_if_lt_f (q := 217) (t0 := 233) dL_lies_214 (by decide) rfl hc ?_
            refine ev_iload (q := 219) dL_lies_217 rfl rfl ?_
            refine ev_bipush (q := 221) (v := (6 : Int32)) dL_lies_219 rfl (by decide) ?_
            by_cases hc : (6 : Int32) ≤ (((v6 - v6 / (6 : Int32) * (6 : Int32)) - r3) + (2 : Int32)) - r4
            · rw [if_pos hc] at h
              refine ev_icmp_ge_t (q := 233) dL_lies_221 (by decide) hc ?_
              exact ev_weak _ (mLe_some (mLe_some (mLe_some (mLe_some (mLe_some (mLe_some (mLe_some (mLe_some (mLe_some (mLe_none (mLe_none mLe_nil))))))))))) (e_L_lies_J233 P v0 v1 v2 v3 v4 v5 v6 v7 v8 w _ hk  _ h hP)
            · rw [if_neg hc] at h
              refine ev_icmp_ge_f (q := 224) (t0 := 233) dL_lies_221 (by decide) rfl hc ?_
              refine ev_iload (q := 226) dL_lies_224 rfl rfl ?_
              refine ev_iconst (q := 227) (v := (1 : Int32)) dL_lies_226 rfl (by decide) ?_
              refine ev_iload (q := 229) dL_lies_227 rfl rfl ?_
              refine ev_ishl (q := 230) dL_lies_229 rfl ?_
              refine ev_ior (q := 231) dL_lies_230 rfl ?_
              refine ev_istore (q := 233) dL_lies_231 rfl (by decide) ?_
              exact ev_weak _ (mLe_some (mLe_some (mLe_some (mLe_some (mLe_some (mLe_some (mLe_some (mLe_some (mLe_some (mLe_none (mLe_none mLe_nil))))))))))) (e_L_lies_J233 P v0 v1 v2 v3 v4 v5 v6 (v7 ||| ((1 : Int32) <<< (v8 &&& 31))) v8 w _ hk  _ h hP)
def f_L_lies_J116 (kc : Int32 → Int32 → Option (Int32)) (v0 : Option Nat) (v1 : Option Nat) (v2 : Option Nat) (v3 : Int32) (v4 : Int32) (v5 : Int32) (v6 : Int32) (v7 : Int32) (v9 : Int32) (s0 : Int32) (s1 : Int32) (w : mW) : Option (Int32) := kc (s0 + s1) (v9 + (1 : Int32))
set_option maxRecDepth 100000 in
set_option maxHeartbeats 4000000 in
theorem e_L_lies_J116 {X : mXs} {r : Option mV} {w' : mW} (P : (Int32) → Prop) (v0 : Option Nat) (v1 : Option Nat) (v2 : Option Nat) (v3 : Int32) (v4 : Int32) (v5 : Int32) (v6 : Int32) (v7 : Int32) (v9 : Int32) (s0 : Int32) (s1 : Int32) (w : mW) (kc : Int32 → Int32 → Option (Int32)) (hk : ∀ (u8 : Int32) (u9 : Int32) (e : Int32), kc u8 u9 = some e → P e → mEv X M_L_lies 5 r w' 85 [some (vr v0), some (vr v1), some (vr v2), some (vi v3), some (vi v4), some (vi v5), some (vi v6), some (vi v7), some (vi u8), some (vi u9), none] [] w) (e : Int32) (h : f_L_lies_J116 kc v0 v1 v2 v3 v4 v5 v6 v7 v9 s0 s1 w = some e) (hP : P e) : mEv X M_L_lies 5 r w' 116 [some (vr v0), some (vr v1), some (vr v2), some (vi v3), some (vi v4), some (vi v5), some (vi v6), some (vi v7), none, some (vi v9), none] [vi s1, vi s0] w := by
  unfold f_L_lies_J116 at h
  refine ev_iadd (q := 117) dL_lies_116 rfl ?_
  refine ev_istore (q := 119) dL_lies_117 rfl (by decide) ?_
  refine ev_iinc (q := 122) (v := v9 + (1 : Int32)) dL_lies_119 rfl (by decide) rfl (by rfl) ?_
  refine ev_goto (q := 85) dL_lies_122 (by decide) ?_
  exact ev_weak _ (mLe_some (mLe_some (mLe_some (mLe_some (mLe_some (mLe_some (mLe_some (mLe_some (mLe_some (mLe_some (mLe_none mLe_nil))))))))))) (hk (s0 + s1) (v9 + (1 : Int32)) _ h hP)
def f_L_lies_L85 (v0 : Option Nat) (v1 : Option Nat) (v2 : Option Nat) (v3 : Int32) (v4 : Int32) (v5 : Int32) (v6 : Int32) (v7 : Int32) (w : mW) : Nat → Int32 → Int32 → Option (Int32)
  | 0, _, _ => none
  | n + 1, v8, v9 => if (2 : Int32) ≤ v9 then (some (v8)) else (Option.bind (f_L_covers v1 v2 v3 v6 v9 w) fun r5 => Option.bind (f_L_in r5 v7 w) fun r6 => if r6 = 0 then (f_L_lies_J116 (f_L_lies_L85 v0 v1 v2 v3 v4 v5 v6 v7 w n) v0 v1 v2 v3 v4 v5 v6 v7 v9 v8 (0 : Int32) w) else (f_L_lies_J116 (f_L_lies_L85 v0 v1 v2 v3 v4 v5 v6 v7 w n) v0 v1 v2 v3 v4 v5 v6 v7 v9 v8 (1 : Int32) w))
set_option maxRecDepth 100000 in
set_option maxHeartbeats 4000000 in
theorem e_L_lies_L85 {X : mXs} {r : Option mV} {w' : mW} (P : (Int32) → Prop) (v0 : Option Nat) (v1 : Option Nat) (v2 : Option Nat) (v3 : Int32) (v4 : Int32) (v5 : Int32) (v6 : Int32) (v7 : Int32) (w : mW) (hexit : ∀ y, P y → mEv X M_L_lies 5 r w' 125 [some (vr v0), some (vr v1), some (vr v2), some (vi v3), some (vi v4), some (vi v5), some (vi v6), some (vi v7), some (vi y), none, none] [] w) : ∀ (n : Nat) (v8 : Int32) (v9 : Int32) (e : Int32), f_L_lies_L85 v0 v1 v2 v3 v4 v5 v6 v7 w n v8 v9 = some e → P e → mEv X M_L_lies 5 r w' 85 [some (vr v0), some (vr v1), some (vr v2), some (vi v3), some (vi v4), some (vi v5), some (vi v6), some (vi v7), some (vi v8), some (vi v9), none] [] w := by
  intro n
  induction n with
  | zero =>
    intro v8 v9 e h hP
    rw [f_L_lies_L85] at h
    cases h
  | succ n hk =>
    intro v8 v9 e h hP
    rw [f_L_lies_L85] at h
    refine ev_iload (q := 87) dL_lies_85 rfl rfl ?_
    refine ev_iconst (q := 88) (v := (2 : Int32)) dL_lies_87 rfl (by decide) ?_
    by_cases hc : (2 : Int32) ≤ v9
    · rw [if_pos hc] at h
      refine ev_icmp_ge_t (q := 125) dL_lies_88 (by decide) hc ?_
      cases h
      exact ev_weak _ (mLe_some (mLe_some (mLe_some (mLe_some (mLe_some (mLe_some (mLe_some (mLe_some (mLe_some (mLe_none (mLe_none mLe_nil))))))))))) (hexit _ hP)
    · rw [if_neg hc] at h
      refine ev_icmp_ge_f (q := 91) (t0 := 125) dL_lies_88 (by decide) rfl hc ?_
      refine ev_iload (q := 93) dL_lies_91 rfl rfl ?_
      refine ev_aload_n (q := 94) dL_lies_93 rfl rfl ?_
      refine ev_aload_n (q := 95) dL_lies_94 rfl rfl ?_
      refine ev_iload_n (q := 96) dL_lies_95 rfl rfl ?_
      refine ev_iload (q := 98) dL_lies_96 rfl rfl ?_
      refine ev_iload (q := 100) dL_lies_98 rfl rfl ?_
      replace h := Option.bind_eq_some_iff.mp h; obtain ⟨r5, hr5, h⟩ := h
      refine ev_invS (M1 := M_L_covers) (as := [vr v1, vr v2, vi v3, vi v6, vi v9]) dL_lies_100 rfl tw_693 cal_L_covers tw_694 (by decide) rfl rfl (Nat.le_of_ble_eq_true rfl) (met_L_covers v1 v2 v3 v6 v9 w _ hr5) ?_
      refine ev_iload (q := 105) dL_lies_103 rfl rfl ?_
      replace h := Option.bind_eq_some_iff.mp h; obtain ⟨r6, hr6, h⟩ := h
      refine ev_invS (M1 := M_L_in) (as := [vi r5, vi v7]) dL_lies_105 rfl tw_705 cal_L_in tw_706 (by decide) rfl rfl (Nat.le_of_ble_eq_true rfl) (met_L_in r5 v7 w _ hr6) ?_
      by_cases hc : r6 = 0
      · rw [if_pos hc] at h
        refine ev_if_eq_t (q := 115) dL_lies_108 (by decide) hc ?_
        refine ev_iconst (q := 116) (v := (0 : Int32)) dL_lies_115 rfl (by decide) ?_
        exact ev_weak _ (mLe_some (mLe_some (mLe_some (mLe_some (mLe_some (mLe_some (mLe_some (mLe_some (mLe_none (mLe_some (mLe_none mLe_nil))))))))))) (e_L_lies_J116 P v0 v1 v2 v3 v4 v5 v6 v7 v9 v8 (0 : Int32) w _ hk  _ h hP)
      · rw [if_neg hc] at h
        refine ev_if_eq_f (q := 111) (t0 := 115) dL_lies_108 (by decide) rfl hc ?_
        refine ev_iconst (q := 112) (v := (1 : Int32)) dL_lies_111 rfl (by decide) ?_
        refine ev_goto (q := 116) dL_lies_112 (by decide) ?_
        exact ev_weak _ (mLe_some (mLe_some (mLe_some (mLe_some (mLe_some (mLe_some (mLe_some (mLe_some (mLe_none (mLe_some (mLe_none mLe_nil))))))))))) (e_L_lies_J116 P v0 v1 v2 v3 v4 v5 v6 v7 v9 v8 (1 : Int32) w _ hk  _ h hP)
def f_L_lies_L71 (v0 : Option Nat) (v1 : Option Nat) (v2 : Option Nat) (v3 : Int32) (v4 : Int32) (v5 : Int32) (v6 : Int32) (w : mW) : Nat → Int32 → Option ((Int32) ⊕ (Unit))
  | 0, _ => none
  | n + 1, v7 => Option.bind (aL w v1 (0 : Int32)) fun r7 => if r7 ≤ v7 then (some (.inr ())) else (Option.bind (f_L_lies_L85 v0 v1 v2 v3 v4 v5 v6 v7 w mFuel (0 : Int32) (-1 : Int32)) fun e8 => Option.bind (kO w v0 10) fun q10 => Option.bind (f_X10_odds q10 v7 v3 v6 w) fun r9 => if r9 = e8 then ((f_L_lies_L71 v0 v1 v2 v3 v4 v5 v6 w n) (v7 + (1 : Int32))) else (some (.inl (0 : Int32))))
set_option maxRecDepth 100000 in
set_option maxHeartbeats 4000000 in
theorem e_L_lies_L71 {X : mXs} {r : Option mV} {w' : mW} (P : ((Int32) ⊕ (Unit)) → Prop) (v0 : Option Nat) (v1 : Option Nat) (v2 : Option Nat) (v3 : Int32) (v4 : Int32) (v5 : Int32) (v6 : Int32) (w : mW) (hret : ∀ y, P (.inl y) → r = (some (vi y)) ∧ w' = w) (hexit : ∀ y, P (.inr y) → mEv X M_L_lies 5 r w' 147 [some (vr v0), some (vr v1), some (vr v2), some (vi v3), some (vi v4), some (vi v5), some (vi v6), none, none, none, none] [] w) : ∀ (n : Nat) (v7 : Int32) (e : (Int32) ⊕ (Unit)), f_L_lies_L71 v0 v1 v2 v3 v4 v5 v6 w n v7 = some e → P e → mEv X M_L_lies 5 r w' 71 [some (vr v0), some (vr v1), some (vr v2), some (vi v3), some (vi v4), some (vi v5), some (vi v6), some (vi v7), none, none, none] [] w := by
  intro n
  induction n with
  | zero =>
    intro v7 e h hP
    rw [f_L_lies_L71] at h
    cases h
  | succ n hk =>
    intro v7 e h hP
    rw [f_L_lies_L71] at h
    refine ev_iload (q := 73) dL_lies_71 rfl rfl ?_
    refine ev_aload_n (q := 74) dL_lies_73 rfl rfl ?_
    refine ev_iconst (q := 75) (v := (0 : Int32)) dL_lies_74 rfl (by decide) ?_
    replace h := Option.bind_eq_some_iff.mp h; obtain ⟨r7, hr7, h⟩ := h
    refine ev_aL dL_lies_75 hr7 rfl ?_
    by_cases hc : r7 ≤ v7
    · rw [if_pos hc] at h
      refine ev_icmp_ge_t (q := 147) dL_lies_76 (by decide) hc ?_
      cases h
      exact ev_weak _ (mLe_some (mLe_some (mLe_some (mLe_some (mLe_some (mLe_some (mLe_some (mLe_none (mLe_none (mLe_none (mLe_none mLe_nil))))))))))) (hexit _ hP)
    · rw [if_neg hc] at h
      refine ev_icmp_ge_f (q := 79) (t0 := 147) dL_lies_76 (by decide) rfl hc ?_
      refine ev_iconst (q := 80) (v := (0 : Int32)) dL_lies_79 rfl (by decide) ?_
      refine ev_istore (q := 82) dL_lies_80 rfl (by decide) ?_
      refine ev_iconst (q := 83) (v := (-1 : Int32)) dL_lies_82 rfl (by decide) ?_
      refine ev_istore (q := 85) dL_lies_83 rfl (by decide) ?_
      replace h := Option.bind_eq_some_iff.mp h; obtain ⟨e8, he8, h⟩ := h
      refine ev_weak _ (mLe_some (mLe_some (mLe_some (mLe_some (mLe_some (mLe_some (mLe_some (mLe_some (mLe_some (mLe_some (mLe_none mLe_nil))))))))))) (e_L_lies_L85 (fun z => e8 = z) v0 v1 v2 v3 v4 v5 v6 v7 w (fun e8q hq => ?_) mFuel (0 : Int32) (-1 : Int32) _ he8 rfl)
      subst hq
      refine ev_aload_n (q := 126) dL_lies_125 rfl rfl ?_
      refine ev_iload (q := 128) dL_lies_126 rfl rfl ?_
      refine ev_iload_n (q := 129) dL_lies_128 rfl rfl ?_
      refine ev_iload (q := 131) dL_lies_129 rfl rfl ?_
      replace h := Option.bind_eq_some_iff.mp h; obtain ⟨q10, hq10, h⟩ := h
      obtain ⟨hxq10, fsq10, hkq10⟩ := kO_spec hq10
      subst hxq10
      replace h := Option.bind_eq_some_iff.mp h; obtain ⟨r9, hr9, h⟩ := h
      refine ev_invV (M1 := M_X10_odds) (as := [vi v7, vi v3, vi v6]) (fs := fsq10) (ci := 10) dL_lies_131 rfl tw_629 cal_X10_odds tw_630 tw_631 (by decide) rfl rfl (Nat.le_of_ble_eq_true rfl) hkq10 rfl (met_X10_odds q10 v7 v3 v6 w _ hr9) ?_
      refine ev_iload (q := 136) dL_lies_134 rfl rfl ?_
      by_cases hc : r9 = e8
      · rw [if_pos hc] at h
        refine ev_icmp_eq_t (q := 141) dL_lies_136 (by decide) hc ?_
        refine ev_iinc (q := 144) (v := v7 + (1 : Int32)) dL_lies_141 rfl (by decide) rfl (by rfl) ?_
        refine ev_goto (q := 71) dL_lies_144 (by decide) ?_
        exact ev_weak _ (mLe_some (mLe_some (mLe_some (mLe_some (mLe_some (mLe_some (mLe_some (mLe_some (mLe_none (mLe_none (mLe_none mLe_nil))))))))))) (hk (v7 + (1 : Int32)) _ h hP)
      · rw [if_neg hc] at h
        refine ev_icmp_eq_f (q := 139) (t0 := 141) dL_lies_136 (by decide) rfl hc ?_
        refine ev_iconst (q := 140) (v := (0 : Int32)) dL_lies_139 rfl (by decide) ?_
        cases h
        obtain ⟨hr1, hr2⟩ := hret _ hP
        subst hr1
        subst hr2
        exact ev_zret dL_lies_140 rfl (Or.inl rfl)
def f_L_lies_J66 (w : mW) : Option ((Int32) ⊕ (Unit)) := some (.inl (0 : Int32))
set_option maxRecDepth 100000 in
set_option maxHeartbeats 4000000 in
theorem e_L_lies_J66 {X : mXs} {r : Option mV} {w' : mW} (P : ((Int32) ⊕ (Unit)) → Prop) (w : mW) (hret : ∀ y, P (.inl y) → r = (some (vi y)) ∧ w' = w) (e : (Int32) ⊕ (Unit)) (h : f_L_lies_J66 w = some e) (hP : P e) : mEv X M_L_lies 5 r w' 66 [none, none, none, none, none, none, none, none, none, none, none] [] w := by
  unfold f_L_lies_J66 at h
  refine ev_iconst (q := 67) (v := (0 : Int32)) dL_lies_66 rfl (by decide) ?_
  cases h
  obtain ⟨hr1, hr2⟩ := hret _ hP
  subst hr1
  subst hr2
  exact ev_zret dL_lies_67 rfl (Or.inl rfl)
def f_L_lies_L3 (v0 : Option Nat) (v1 : Option Nat) (v2 : Option Nat) (v3 : Int32) (v4 : Int32) (w : mW) : Nat → Int32 → Option ((Int32) ⊕ (Unit))
  | 0, _ => none
  | n + 1, v5 => if (6 : Int32) ≤ v5 then (some (.inr ())) else (Option.bind (kO w v0 10) fun q12 => Option.bind (f_X10_lands q12 v3 ((v4 + ((7 : Int32) * v5)) - (v4 + ((7 : Int32) * v5)) / (36 : Int32) * (36 : Int32)) w) fun r11 => Option.bind (aL w v2 (36 : Int32)) fun r13 => Option.bind (f_L_lands v2 v3 ((v4 + ((7 : Int32) * v5)) - (v4 + ((7 : Int32) * v5)) / (36 : Int32) * (36 : Int32)) r13 w) fun r14 => if r11 = r14 then (Option.bind (kO w (some q12) 10) fun _ => Option.bind (f_X10_covers q12 v3 ((v4 + ((7 : Int32) * v5)) - (v4 + ((7 : Int32) * v5)) / (36 : Int32) * (36 : Int32)) w) fun r15 => Option.bind (aL w v2 (36 : Int32)) fun r17 => Option.bind (f_L_covers v1 v2 v3 ((v4 + ((7 : Int32) * v5)) - (v4 + ((7 : Int32) * v5)) / (36 : Int32) * (36 : Int32)) r17 w) fun r18 => if r15 = r18 then (Option.bind (f_L_lies_L71 (some q12) v1 v2 v3 v4 v5 ((v4 + ((7 : Int32) * v5)) - (v4 + ((7 : Int32) * v5)) / (36 : Int32) * (36 : Int32)) w mFuel (0 : Int32)) fun e19 => match e19 with | .inl y24 => some (.inl y24) | .inr y20 => Option.bind (f_L_lies_L153 (some q12) v1 v2 v3 v4 v5 ((v4 + ((7 : Int32) * v5)) - (v4 + ((7 : Int32) * v5)) / (36 : Int32) * (36 : Int32)) w mFuel (0 : Int32) (0 : Int32)) fun e21 => Option.bind (kO w (some q12) 10) fun _ => Option.bind (f_X10_who q12 ((v4 + ((7 : Int32) * v5)) - (v4 + ((7 : Int32) * v5)) / (36 : Int32) * (36 : Int32)) w) fun r22 => if r22 = e21 then ((f_L_lies_L3 v0 v1 v2 v3 v4 w n) (v5 + (1 : Int32))) else (some (.inl (0 : Int32)))) else (f_L_lies_J66 w)) else (f_L_lies_J66 w))
set_option maxRecDepth 100000 in
set_option maxHeartbeats 4000000 in
theorem e_L_lies_L3 {X : mXs} {r : Option mV} {w' : mW} (P : ((Int32) ⊕ (Unit)) → Prop) (v0 : Option Nat) (v1 : Option Nat) (v2 : Option Nat) (v3 : Int32) (v4 : Int32) (w : mW) (hret : ∀ y, P (.inl y) → r = (some (vi y)) ∧ w' = w) (hexit : ∀ y, P (.inr y) → mEv X M_L_lies 5 r w' 258 [none, none, none, none, none, none, none, none, none, none, none] [] w) : ∀ (n : Nat) (v5 : Int32) (e : (Int32) ⊕ (Unit)), f_L_lies_L3 v0 v1 v2 v3 v4 w n v5 = some e → P e → mEv X M_L_lies 5 r w' 3 [some (vr v0), some (vr v1), some (vr v2), some (vi v3), some (vi v4), some (vi v5), none, none, none, none, none] [] w := by
  intro n
  induction n with
  | zero =>
    intro v5 e h hP
    rw [f_L_lies_L3] at h
    cases h
  | succ n hk =>
    intro v5 e h hP
    rw [f_L_lies_L3] at h
    refine ev_iload (q := 5) dL_lies_3 rfl rfl ?_
    refine ev_bipush (q := 7) (v := (6 : Int32)) dL_lies_5 rfl (by decide) ?_
    by_cases hc : (6 : Int32) ≤ v5
    · rw [if_pos hc] at h
      refine ev_icmp_ge_t (q := 258) dL_lies_7 (by decide) hc ?_
      cases h
      exact ev_weak _ (mLe_none (mLe_none (mLe_none (mLe_none (mLe_none (mLe_none (mLe_none (mLe_none (mLe_none (mLe_none (mLe_none mLe_nil))))))))))) (hexit _ hP)
    · rw [if_neg hc] at h
      refine ev_icmp_ge_f (q := 10) (t0 := 258) dL_lies_7 (by decide) rfl hc ?_
      refine ev_iload (q := 12) dL_lies_10 rfl rfl ?_
      refine ev_bipush (q := 14) (v := (7 : Int32)) dL_lies_12 rfl (by decide) ?_
      refine ev_iload (q := 16) dL_lies_14 rfl rfl ?_
      refine ev_imul (q := 17) dL_lies_16 rfl ?_
      refine ev_iadd (q := 18) dL_lies_17 rfl ?_
      refine ev_bipush (q := 20) (v := (36 : Int32)) dL_lies_18 rfl (by decide) ?_
      refine ev_irem (q := 21) dL_lies_20 rfl (by decide) ?_
      refine ev_istore (q := 23) dL_lies_21 rfl (by decide) ?_
      refine ev_aload_n (q := 24) dL_lies_23 rfl rfl ?_
      refine ev_iload_n (q := 25) dL_lies_24 rfl rfl ?_
      refine ev_iload (q := 27) dL_lies_25 rfl rfl ?_
      replace h := Option.bind_eq_some_iff.mp h; obtain ⟨q12, hq12, h⟩ := h
      obtain ⟨hxq12, fsq12, hkq12⟩ := kO_spec hq12
      subst hxq12
      replace h := Option.bind_eq_some_iff.mp h; obtain ⟨r11, hr11, h⟩ := h
      refine ev_invV (M1 := M_X10_lands) (as := [vi v3, vi ((v4 + ((7 : Int32) * v5)) - (v4 + ((7 : Int32) * v5)) / (36 : Int32) * (36 : Int32))]) (fs := fsq12) (ci := 10) dL_lies_27 rfl tw_588 cal_X10_lands tw_589 tw_590 (by decide) rfl rfl (Nat.le_of_ble_eq_true rfl) hkq12 rfl (met_X10_lands q12 v3 ((v4 + ((7 : Int32) * v5)) - (v4 + ((7 : Int32) * v5)) / (36 : Int32) * (36 : Int32)) w _ hr11) ?_
      refine ev_aload_n (q := 31) dL_lies_30 rfl rfl ?_
      refine ev_iload_n (q := 32) dL_lies_31 rfl rfl ?_
      refine ev_iload (q := 34) dL_lies_32 rfl rfl ?_
      refine ev_aload_n (q := 35) dL_lies_34 rfl rfl ?_
      refine ev_bipush (q := 37) (v := (36 : Int32)) dL_lies_35 rfl (by decide) ?_
      replace h := Option.bind_eq_some_iff.mp h; obtain ⟨r13, hr13, h⟩ := h
      refine ev_aL dL_lies_37 hr13 rfl ?_
      replace h := Option.bind_eq_some_iff.mp h; obtain ⟨r14, hr14, h⟩ := h
      refine ev_invS (M1 := M_L_lands) (as := [vr v2, vi v3, vi ((v4 + ((7 : Int32) * v5)) - (v4 + ((7 : Int32) * v5)) / (36 : Int32) * (36 : Int32)), vi r13]) dL_lies_38 rfl tw_696 cal_L_lands tw_697 (by decide) rfl rfl (Nat.le_of_ble_eq_true rfl) (met_L_lands v2 v3 ((v4 + ((7 : Int32) * v5)) - (v4 + ((7 : Int32) * v5)) / (36 : Int32) * (36 : Int32)) r13 w _ hr14) ?_
      by_cases hc : r11 = r14
      · rw [if_pos hc] at h
        refine ev_icmp_ne_f (q := 44) (t0 := 66) dL_lies_41 (by decide) rfl hc ?_
        refine ev_aload_n (q := 45) dL_lies_44 rfl rfl ?_
        refine ev_iload_n (q := 46) dL_lies_45 rfl rfl ?_
        refine ev_iload (q := 48) dL_lies_46 rfl rfl ?_
        replace h := Option.bind_eq_some_iff.mp h; obtain ⟨q16, hq16, h⟩ := h
        obtain ⟨hxq16, fsq16, hkq16⟩ := kO_spec hq16
        cases hxq16
        replace h := Option.bind_eq_some_iff.mp h; obtain ⟨r15, hr15, h⟩ := h
        refine ev_invV (M1 := M_X10_covers) (as := [vi v3, vi ((v4 + ((7 : Int32) * v5)) - (v4 + ((7 : Int32) * v5)) / (36 : Int32) * (36 : Int32))]) (fs := fsq16) (ci := 10) dL_lies_48 rfl tw_604 cal_X10_covers tw_605 tw_606 (by decide) rfl rfl (Nat.le_of_ble_eq_true rfl) hkq16 rfl (met_X10_covers q12 v3 ((v4 + ((7 : Int32) * v5)) - (v4 + ((7 : Int32) * v5)) / (36 : Int32) * (36 : Int32)) w _ hr15) ?_
        refine ev_aload_n (q := 52) dL_lies_51 rfl rfl ?_
        refine ev_aload_n (q := 53) dL_lies_52 rfl rfl ?_
        refine ev_iload_n (q := 54) dL_lies_53 rfl rfl ?_
        refine ev_iload (q := 56) dL_lies_54 rfl rfl ?_
        refine ev_aload_n (q := 57) dL_lies_56 rfl rfl ?_
        refine ev_bipush (q := 59) (v := (36 : Int32)) dL_lies_57 rfl (by decide) ?_
        replace h := Option.bind_eq_some_iff.mp h; obtain ⟨r17, hr17, h⟩ := h
        refine ev_aL dL_lies_59 hr17 rfl ?_
        replace h := Option.bind_eq_some_iff.mp h; obtain ⟨r18, hr18, h⟩ := h
        refine ev_invS (M1 := M_L_covers) (as := [vr v1, vr v2, vi v3, vi ((v4 + ((7 : Int32) * v5)) - (v4 + ((7 : Int32) * v5)) / (36 : Int32) * (36 : Int32)), vi r17]) dL_lies_60 rfl tw_693 cal_L_covers tw_694 (by decide) rfl rfl (Nat.le_of_ble_eq_true rfl) (met_L_covers v1 v2 v3 ((v4 + ((7 : Int32) * v5)) - (v4 + ((7 : Int32) * v5)) / (36 : Int32) * (36 : Int32)) r17 w _ hr18) ?_
        by_cases hc : r15 = r18
        · rw [if_pos hc] at h
          refine ev_icmp_eq_t (q := 68) dL_lies_63 (by decide) hc ?_
          refine ev_iconst (q := 69) (v := (0 : Int32)) dL_lies_68 rfl (by decide) ?_
          refine ev_istore (q := 71) dL_lies_69 rfl (by decide) ?_
          replace h := Option.bind_eq_some_iff.mp h; obtain ⟨e19, he19, h⟩ := h
          refine ev_weak _ (mLe_some (mLe_some (mLe_some (mLe_some (mLe_some (mLe_some (mLe_some (mLe_some (mLe_none (mLe_none (mLe_none mLe_nil))))))))))) (e_L_lies_L71 (fun z => e19 = z) (some q12) v1 v2 v3 v4 v5 ((v4 + ((7 : Int32) * v5)) - (v4 + ((7 : Int32) * v5)) / (36 : Int32) * (36 : Int32)) w (fun y24 hq => ?_) (fun y20 hq => ?_) mFuel (0 : Int32) _ he19 rfl)
          · subst hq
            dsimp only at h
            cases h
            exact hret _ hP
          · subst hq
            dsimp only at h
            refine ev_iconst (q := 148) (v := (0 : Int32)) dL_lies_147 rfl (by decide) ?_
            refine ev_istore (q := 150) dL_lies_148 rfl (by decide) ?_
            refine ev_iconst (q := 151) (v := (0 : Int32)) dL_lies_150 rfl (by decide) ?_
            refine ev_istore (q := 153) dL_lies_151 rfl (by decide) ?_
            replace h := Option.bind_eq_some_iff.mp h; obtain ⟨e21, he21, h⟩ := h
            refine ev_weak _ (mLe_some (mLe_some (mLe_some (mLe_some (mLe_some (mLe_some (mLe_some (mLe_some (mLe_some (mLe_none (mLe_none mLe_nil))))))))))) (e_L_lies_L153 (fun z => e21 = z) (some q12) v1 v2 v3 v4 v5 ((v4 + ((7 : Int32) * v5)) - (v4 + ((7 : Int32) * v5)) / (36 : Int32) * (36 : Int32)) w (fun e21q hq => ?_) mFuel (0 : Int32) (0 : Int32) _ he21 rfl)
            subst hq
            refine ev_aload_n (q := 240) dL_lies_239 rfl rfl ?_
            refine ev_iload (q := 242) dL_lies_240 rfl rfl ?_
            replace h := Option.bind_eq_some_iff.mp h; obtain ⟨q23, hq23, h⟩ := h
            obtain ⟨hxq23, fsq23, hkq23⟩ := kO_spec hq23
            cases hxq23
            replace h := Option.bind_eq_some_iff.mp h; obtain ⟨r22, hr22, h⟩ := h
            refine ev_invV (M1 := M_X10_who) (as := [vi ((v4 + ((7 : Int32) * v5)) - (v4 + ((7 : Int32) * v5)) / (36 : Int32) * (36 : Int32))]) (fs := fsq23) (ci := 10) dL_lies_242 rfl tw_633 cal_X10_who tw_634 tw_635 (by decide) rfl rfl (Nat.le_of_ble_eq_true rfl) hkq23 rfl (met_X10_who q12 ((v4 + ((7 : Int32) * v5)) - (v4 + ((7 : Int32) * v5)) / (36 : Int32) * (36 : Int32)) w _ hr22) ?_
            refine ev_iload (q := 247) dL_lies_245 rfl rfl ?_
            by_cases hc : r22 = e21
            · rw [if_pos hc] at h
              refine ev_icmp_eq_t (q := 252) dL_lies_247 (by decide) hc ?_
              refine ev_iinc (q := 255) (v := v5 + (1 : Int32)) dL_lies_252 rfl (by decide) rfl (by rfl) ?_
              refine ev_goto (q := 3) dL_lies_255 (by decide) ?_
              exact ev_weak _ (mLe_some (mLe_some (mLe_some (mLe_some (mLe_some (mLe_some (mLe_none (mLe_none (mLe_none (mLe_none (mLe_none mLe_nil))))))))))) (hk (v5 + (1 : Int32)) _ h hP)
            · rw [if_neg hc] at h
              refine ev_icmp_eq_f (q := 250) (t0 := 252) dL_lies_247 (by decide) rfl hc ?_
              refine ev_iconst (q := 251) (v := (0 : Int32)) dL_lies_250 rfl (by decide) ?_
              cases h
              obtain ⟨hr1, hr2⟩ := hret _ hP
              subst hr1
              subst hr2
              exact ev_zret dL_lies_251 rfl (Or.inl rfl)
        · rw [if_neg hc] at h
          refine ev_icmp_eq_f (q := 66) (t0 := 68) dL_lies_63 (by decide) rfl hc ?_
          exact ev_weak _ (mLe_none (mLe_none (mLe_none (mLe_none (mLe_none (mLe_none (mLe_none (mLe_none (mLe_none (mLe_none (mLe_none mLe_nil))))))))))) (e_L_lies_J66 P w hret  _ h hP)
      · rw [if_neg hc] at h
        refine ev_icmp_ne_t (q := 66) dL_lies_41 (by decide) hc ?_
        exact ev_weak _ (mLe_none (mLe_none (mLe_none (mLe_none (mLe_none (mLe_none (mLe_none (mLe_none (mLe_none (mLe_none (mLe_none mLe_nil))))))))))) (e_L_lies_J66 P w hret  _ h hP)
def f_L_lies (v0 : Option Nat) (v1 : Option Nat) (v2 : Option Nat) (v3 : Int32) (v4 : Int32) (w : mW) : Option (Int32) := Option.bind (f_L_lies_L3 v0 v1 v2 v3 v4 w mFuel (0 : Int32)) fun e25 => match e25 with | .inl y27 => some y27 | .inr y26 => some ((1 : Int32))
set_option maxRecDepth 100000 in
set_option maxHeartbeats 4000000 in
theorem met_L_lies (v0 : Option Nat) (v1 : Option Nat) (v2 : Option Nat) (v3 : Int32) (v4 : Int32) (w : mW) (res : Int32) (h : f_L_lies v0 v1 v2 v3 v4 w = some res) : mMet M_L_lies 5 [vr v0, vr v1, vr v2, vi v3, vi v4] w (some (vi res)) w := by
  refine ev_met (n := 6) (by decide) rfl fun X => ?_
  unfold f_L_lies at h
  show mEv X M_L_lies 5 _ _ 0 [some (vr v0), some (vr v1), some (vr v2), some (vi v3), some (vi v4), none, none, none, none, none, none] [] w
  refine ev_iconst (q := 1) (v := (0 : Int32)) dL_lies_0 rfl (by decide) ?_
  refine ev_istore (q := 3) dL_lies_1 rfl (by decide) ?_
  replace h := Option.bind_eq_some_iff.mp h; obtain ⟨e25, he25, h⟩ := h
  refine ev_weak _ (mLe_some (mLe_some (mLe_some (mLe_some (mLe_some (mLe_some (mLe_none (mLe_none (mLe_none (mLe_none (mLe_none mLe_nil))))))))))) (e_L_lies_L3 (fun z => e25 = z) v0 v1 v2 v3 v4 w (fun y27 hq => ?_) (fun y26 hq => ?_) mFuel (0 : Int32) _ he25 rfl)
  · subst hq
    dsimp only at h
    cases h
    exact ⟨rfl, rfl⟩
  · subst hq
    dsimp only at h
    refine ev_iconst (q := 259) (v := (1 : Int32)) dL_lies_258 rfl (by decide) ?_
    cases h
    exact ev_zret dL_lies_259 rfl (Or.inr rfl)
def f_L_seasons_J164 (s0 : Int32) (w : mW) : Option (Int32) := if s0 = 0 ∨ s0 = 1 then some (s0) else none
set_option maxRecDepth 100000 in
set_option maxHeartbeats 4000000 in
theorem e_L_seasons_J164 {X : mXs} (s0 : Int32) (w : mW) (res : Int32) (h : f_L_seasons_J164 s0 w = some res) : mEv X M_L_seasons 5 (some (vi res)) w 164 [none, none, none, none, none, none, none, none, none, none, none, none, none] [vi s0] w := by
  unfold f_L_seasons_J164 at h
  by_cases hz : s0 = 0 ∨ s0 = 1
  · rw [if_pos hz] at h
    cases h
    exact ev_zret dL_seasons_164 rfl hz
  · rw [if_neg hz] at h
    cases h
def f_L_seasons_J163 (w : mW) : Option (Int32) := f_L_seasons_J164 (0 : Int32) w
set_option maxRecDepth 100000 in
set_option maxHeartbeats 4000000 in
theorem e_L_seasons_J163 {X : mXs} (w : mW) (res : Int32) (h : f_L_seasons_J163 w = some res) : mEv X M_L_seasons 5 (some (vi res)) w 163 [none, none, none, none, none, none, none, none, none, none, none, none, none] [] w := by
  unfold f_L_seasons_J163 at h
  refine ev_iconst (q := 164) (v := (0 : Int32)) dL_seasons_163 rfl (by decide) ?_
  exact ev_weak _ (mLe_none (mLe_none (mLe_none (mLe_none (mLe_none (mLe_none (mLe_none (mLe_none (mLe_none (mLe_none (mLe_none (mLe_none (mLe_none mLe_nil))))))))))))) (e_L_seasons_J164 (0 : Int32) w _ h)
def f_L_seasons_L14 (v0 : Option Nat) (v1 : Option Nat) (v2 : Option Nat) (v3 : Int32) (v4 : Int32) (w : mW) : Nat → Int64 → Int32 → Int32 → Int32 → Option (Int64 × Int32 × Int32)
  | 0, _, _, _, _ => none
  | n + 1, v5, v7, v8, v9 => if v3 ≤ v9 then (some ((v5, v7, v8))) else (Option.bind (f_L_after v5 w) fun r1 => Option.bind (f_L_after r1 w) fun r2 => Option.bind (aL w v1 (1 : Int32)) fun r3 => if r3.toInt64 = 0 then none else Option.bind (f_L_after r2 w) fun r4 => Option.bind (f_L_covers v1 v2 (((r2 / (65536 : Int64)) - (r2 / (65536 : Int64)) / r3.toInt64 * r3.toInt64).toInt32) (((r4 / (65536 : Int64)) - (r4 / (65536 : Int64)) / (36 : Int64) * (36 : Int64)).toInt32) ((((r1 / (65536 : Int64)) - (r1 / (65536 : Int64)) / (3 : Int64) * (3 : Int64)).toInt32) - (1 : Int32)) w) fun r5 => Option.bind (f_L_size r5 w) fun r6 => (f_L_seasons_L14 v0 v1 v2 v3 v4 w n) r4 (v7 + r6) (v8 ||| r5) (v9 + (1 : Int32)))
set_option maxRecDepth 100000 in
set_option maxHeartbeats 4000000 in
theorem e_L_seasons_L14 {X : mXs} {r : Option mV} {w' : mW} (P : (Int64 × Int32 × Int32) → Prop) (v0 : Option Nat) (v1 : Option Nat) (v2 : Option Nat) (v3 : Int32) (v4 : Int32) (w : mW) (hexit : ∀ y, P y → mEv X M_L_seasons 5 r w' 115 [some (vr v0), none, none, some (vi v3), some (vi v4), some (vl y.1), none, some (vi y.2.1), some (vi y.2.2), none, none, none, none] [] w) : ∀ (n : Nat) (v5 : Int64) (v7 : Int32) (v8 : Int32) (v9 : Int32) (e : Int64 × Int32 × Int32), f_L_seasons_L14 v0 v1 v2 v3 v4 w n v5 v7 v8 v9 = some e → P e → mEv X M_L_seasons 5 r w' 14 [some (vr v0), some (vr v1), some (vr v2), some (vi v3), some (vi v4), some (vl v5), none, some (vi v7), some (vi v8), some (vi v9), none, none, none] [] w := by
  intro n
  induction n with
  | zero =>
    intro v5 v7 v8 v9 e h hP
    rw [f_L_seasons_L14] at h
    cases h
  | succ n hk =>
    intro v5 v7 v8 v9 e h hP
    rw [f_L_seasons_L14] at h
    refine ev_iload (q := 16) dL_seasons_14 rfl rfl ?_
    refine ev_iload_n (q := 17) dL_seasons_16 rfl rfl ?_
    by_cases hc : v3 ≤ v9
    · rw [if_pos hc] at h
      refine ev_icmp_ge_t (q := 115) dL_seasons_17 (by decide) hc ?_
      cases h
      exact ev_weak _ (mLe_some (mLe_none (mLe_none (mLe_some (mLe_some (mLe_some (mLe_none (mLe_some (mLe_some (mLe_none (mLe_none (mLe_none (mLe_none mLe_nil))))))))))))) (hexit _ hP)
    · rw [if_neg hc] at h
      refine ev_icmp_ge_f (q := 20) (t0 := 115) dL_seasons_17 (by decide) rfl hc ?_
      refine ev_lload (q := 22) dL_seasons_20 rfl rfl ?_
      replace h := Option.bind_eq_some_iff.mp h; obtain ⟨r1, hr1, h⟩ := h
      refine ev_invS (M1 := M_L_after) (as := [vl v5]) dL_seasons_22 rfl tw_727 cal_L_after tw_728 (by decide) rfl rfl (Nat.le_of_ble_eq_true rfl) (met_L_after v5 w _ hr1) ?_
      refine ev_lstore (q := 27) dL_seasons_25 rfl (by decide) ?_
      refine ev_lload (q := 29) dL_seasons_27 rfl rfl ?_
      refine ev_ldc2 (q := 32) (v := (65536 : Int64)) dL_seasons_29 rfl tw_733 ?_
      refine ev_ldiv (q := 33) dL_seasons_32 rfl (by decide) ?_
      refine ev_ldc2 (q := 36) (v := (3 : Int64)) dL_seasons_33 rfl tw_734 ?_
      refine ev_lrem (q := 37) dL_seasons_36 rfl (by decide) ?_
      refine ev_l2i (q := 38) dL_seasons_37 rfl ?_
      refine ev_iconst (q := 39) (v := (1 : Int32)) dL_seasons_38 rfl (by decide) ?_
      refine ev_isub (q := 40) dL_seasons_39 rfl ?_
      refine ev_istore (q := 42) dL_seasons_40 rfl (by decide) ?_
      refine ev_lload (q := 44) dL_seasons_42 rfl rfl ?_
      replace h := Option.bind_eq_some_iff.mp h; obtain ⟨r2, hr2, h⟩ := h
      refine ev_invS (M1 := M_L_after) (as := [vl r1]) dL_seasons_44 rfl tw_727 cal_L_after tw_728 (by decide) rfl rfl (Nat.le_of_ble_eq_true rfl) (met_L_after r1 w _ hr2) ?_
      refine ev_lstore (q := 49) dL_seasons_47 rfl (by decide) ?_
      refine ev_lload (q := 51) dL_seasons_49 rfl rfl ?_
      refine ev_ldc2 (q := 54) (v := (65536 : Int64)) dL_seasons_51 rfl tw_733 ?_
      refine ev_ldiv (q := 55) dL_seasons_54 rfl (by decide) ?_
      refine ev_aload_n (q := 56) dL_seasons_55 rfl rfl ?_
      refine ev_iconst (q := 57) (v := (1 : Int32)) dL_seasons_56 rfl (by decide) ?_
      replace h := Option.bind_eq_some_iff.mp h; obtain ⟨r3, hr3, h⟩ := h
      refine ev_aL dL_seasons_57 hr3 rfl ?_
      refine ev_i2l (q := 59) dL_seasons_58 rfl ?_
      split at h
      · cases h
      rename_i h0
      refine ev_lrem (q := 60) dL_seasons_59 rfl h0 ?_
      refine ev_l2i (q := 61) dL_seasons_60 rfl ?_
      refine ev_istore (q := 63) dL_seasons_61 rfl (by decide) ?_
      refine ev_lload (q := 65) dL_seasons_63 rfl rfl ?_
      replace h := Option.bind_eq_some_iff.mp h; obtain ⟨r4, hr4, h⟩ := h
      refine ev_invS (M1 := M_L_after) (as := [vl r2]) dL_seasons_65 rfl tw_727 cal_L_after tw_728 (by decide) rfl rfl (Nat.le_of_ble_eq_true rfl) (met_L_after r2 w _ hr4) ?_
      refine ev_lstore (q := 70) dL_seasons_68 rfl (by decide) ?_
      refine ev_aload_n (q := 71) dL_seasons_70 rfl rfl ?_
      refine ev_aload_n (q := 72) dL_seasons_71 rfl rfl ?_
      refine ev_iload (q := 74) dL_seasons_72 rfl rfl ?_
      refine ev_lload (q := 76) dL_seasons_74 rfl rfl ?_
      refine ev_ldc2 (q := 79) (v := (65536 : Int64)) dL_seasons_76 rfl tw_733 ?_
      refine ev_ldiv (q := 80) dL_seasons_79 rfl (by decide) ?_
      refine ev_ldc2 (q := 83) (v := (36 : Int64)) dL_seasons_80 rfl tw_735 ?_
      refine ev_lrem (q := 84) dL_seasons_83 rfl (by decide) ?_
      refine ev_l2i (q := 85) dL_seasons_84 rfl ?_
      refine ev_iload (q := 87) dL_seasons_85 rfl rfl ?_
      replace h := Option.bind_eq_some_iff.mp h; obtain ⟨r5, hr5, h⟩ := h
      refine ev_invS (M1 := M_L_covers) (as := [vr v1, vr v2, vi (((r2 / (65536 : Int64)) - (r2 / (65536 : Int64)) / r3.toInt64 * r3.toInt64).toInt32), vi (((r4 / (65536 : Int64)) - (r4 / (65536 : Int64)) / (36 : Int64) * (36 : Int64)).toInt32), vi ((((r1 / (65536 : Int64)) - (r1 / (65536 : Int64)) / (3 : Int64) * (3 : Int64)).toInt32) - (1 : Int32))]) dL_seasons_87 rfl tw_693 cal_L_covers tw_694 (by decide) rfl rfl (Nat.le_of_ble_eq_true rfl) (met_L_covers v1 v2 (((r2 / (65536 : Int64)) - (r2 / (65536 : Int64)) / r3.toInt64 * r3.toInt64).toInt32) (((r4 / (65536 : Int64)) - (r4 / (65536 : Int64)) / (36 : Int64) * (36 : Int64)).toInt32) ((((r1 / (65536 : Int64)) - (r1 / (65536 : Int64)) / (3 : Int64) * (3 : Int64)).toInt32) - (1 : Int32)) w _ hr5) ?_
      refine ev_istore (q := 92) dL_seasons_90 rfl (by decide) ?_
      refine ev_iload (q := 94) dL_seasons_92 rfl rfl ?_
      refine ev_iload (q := 96) dL_seasons_94 rfl rfl ?_
      replace h := Option.bind_eq_some_iff.mp h; obtain ⟨r6, hr6, h⟩ := h
      refine ev_invS (M1 := M_L_size) (as := [vi r5]) dL_seasons_96 rfl tw_708 cal_L_size tw_709 (by decide) rfl rfl (Nat.le_of_ble_eq_true rfl) (met_L_size r5 w _ hr6) ?_
      refine ev_iadd (q := 100) dL_seasons_99 rfl ?_
      refine ev_istore (q := 102) dL_seasons_100 rfl (by decide) ?_
      refine ev_iload (q := 104) dL_seasons_102 rfl rfl ?_
      refine ev_iload (q := 106) dL_seasons_104 rfl rfl ?_
      refine ev_ior (q := 107) dL_seasons_106 rfl ?_
      refine ev_istore (q := 109) dL_seasons_107 rfl (by decide) ?_
      refine ev_iinc (q := 112) (v := v9 + (1 : Int32)) dL_seasons_109 rfl (by decide) rfl (by rfl) ?_
      refine ev_goto (q := 14) dL_seasons_112 (by decide) ?_
      exact ev_weak _ (mLe_some (mLe_some (mLe_some (mLe_some (mLe_some (mLe_some (mLe_none (mLe_some (mLe_some (mLe_some (mLe_none (mLe_none (mLe_none mLe_nil))))))))))))) (hk r4 (v7 + r6) (v8 ||| r5) (v9 + (1 : Int32)) _ h hP)
def f_L_seasons (v0 : Option Nat) (v1 : Option Nat) (v2 : Option Nat) (v3 : Int32) (v4 : Int32) (w : mW) : Option (Int32) := Option.bind (f_L_seasons_L14 v0 v1 v2 v3 v4 w mFuel v4.toInt64 (0 : Int32) (0 : Int32) (0 : Int32)) fun e7 => Option.bind (kO w v0 10) fun q9 => Option.bind (f_X10_seasons q9 v3 v4 (0 : Int32) w) fun r8 => if r8 = e7.2.1 then (Option.bind (kO w (some q9) 10) fun _ => Option.bind (f_X10_seasons q9 v3 v4 (1 : Int32) w) fun r10 => Option.bind (f_L_size e7.2.2 w) fun r12 => if r10 = r12 then (Option.bind (kO w (some q9) 10) fun _ => Option.bind (f_X10_seasons q9 v3 v4 (2 : Int32) w) fun r13 => if lg_cmp r13.toInt64 e7.1 = 0 then (f_L_seasons_J164 (1 : Int32) w) else (f_L_seasons_J163 w)) else (f_L_seasons_J163 w)) else (f_L_seasons_J163 w)
set_option maxRecDepth 100000 in
set_option maxHeartbeats 4000000 in
theorem met_L_seasons (v0 : Option Nat) (v1 : Option Nat) (v2 : Option Nat) (v3 : Int32) (v4 : Int32) (w : mW) (res : Int32) (h : f_L_seasons v0 v1 v2 v3 v4 w = some res) : mMet M_L_seasons 5 [vr v0, vr v1, vr v2, vi v3, vi v4] w (some (vi res)) w := by
  refine ev_met (n := 8) (by decide) rfl fun X => ?_
  unfold f_L_seasons at h
  show mEv X M_L_seasons 5 _ _ 0 [some (vr v0), some (vr v1), some (vr v2), some (vi v3), some (vi v4), none, none, none, none, none, none, none, none] [] w
  refine ev_iload (q := 2) dL_seasons_0 rfl rfl ?_
  refine ev_i2l (q := 3) dL_seasons_2 rfl ?_
  refine ev_lstore (q := 5) dL_seasons_3 rfl (by decide) ?_
  refine ev_iconst (q := 6) (v := (0 : Int32)) dL_seasons_5 rfl (by decide) ?_
  refine ev_istore (q := 8) dL_seasons_6 rfl (by decide) ?_
  refine ev_iconst (q := 9) (v := (0 : Int32)) dL_seasons_8 rfl (by decide) ?_
  refine ev_istore (q := 11) dL_seasons_9 rfl (by decide) ?_
  refine ev_iconst (q := 12) (v := (0 : Int32)) dL_seasons_11 rfl (by decide) ?_
  refine ev_istore (q := 14) dL_seasons_12 rfl (by decide) ?_
  replace h := Option.bind_eq_some_iff.mp h; obtain ⟨e7, he7, h⟩ := h
  refine ev_weak _ (mLe_some (mLe_some (mLe_some (mLe_some (mLe_some (mLe_some (mLe_none (mLe_some (mLe_some (mLe_some (mLe_none (mLe_none (mLe_none mLe_nil))))))))))))) (e_L_seasons_L14 (fun z => e7 = z) v0 v1 v2 v3 v4 w (fun e7q hq => ?_) mFuel v4.toInt64 (0 : Int32) (0 : Int32) (0 : Int32) _ he7 rfl)
  subst hq
  refine ev_aload_n (q := 116) dL_seasons_115 rfl rfl ?_
  refine ev_iload_n (q := 117) dL_seasons_116 rfl rfl ?_
  refine ev_iload (q := 119) dL_seasons_117 rfl rfl ?_
  refine ev_iconst (q := 120) (v := (0 : Int32)) dL_seasons_119 rfl (by decide) ?_
  replace h := Option.bind_eq_some_iff.mp h; obtain ⟨q9, hq9, h⟩ := h
  obtain ⟨hxq9, fsq9, hkq9⟩ := kO_spec hq9
  subst hxq9
  replace h := Option.bind_eq_some_iff.mp h; obtain ⟨r8, hr8, h⟩ := h
  refine ev_invV (M1 := M_X10_seasons) (as := [vi v3, vi v4, vi ((0 : Int32))]) (fs := fsq9) (ci := 10) dL_seasons_120 rfl tw_641 cal_X10_seasons tw_642 tw_643 (by decide) rfl rfl (Nat.le_of_ble_eq_true rfl) hkq9 rfl (met_X10_seasons q9 v3 v4 (0 : Int32) w _ hr8) ?_
  refine ev_iload (q := 125) dL_seasons_123 rfl rfl ?_
  by_cases hc : r8 = e7.2.1
  · rw [if_pos hc] at h
    refine ev_icmp_ne_f (q := 128) (t0 := 163) dL_seasons_125 (by decide) rfl hc ?_
    refine ev_aload_n (q := 129) dL_seasons_128 rfl rfl ?_
    refine ev_iload_n (q := 130) dL_seasons_129 rfl rfl ?_
    refine ev_iload (q := 132) dL_seasons_130 rfl rfl ?_
    refine ev_iconst (q := 133) (v := (1 : Int32)) dL_seasons_132 rfl (by decide) ?_
    replace h := Option.bind_eq_some_iff.mp h; obtain ⟨q11, hq11, h⟩ := h
    obtain ⟨hxq11, fsq11, hkq11⟩ := kO_spec hq11
    cases hxq11
    replace h := Option.bind_eq_some_iff.mp h; obtain ⟨r10, hr10, h⟩ := h
    refine ev_invV (M1 := M_X10_seasons) (as := [vi v3, vi v4, vi ((1 : Int32))]) (fs := fsq11) (ci := 10) dL_seasons_133 rfl tw_641 cal_X10_seasons tw_642 tw_643 (by decide) rfl rfl (Nat.le_of_ble_eq_true rfl) hkq11 rfl (met_X10_seasons q9 v3 v4 (1 : Int32) w _ hr10) ?_
    refine ev_iload (q := 138) dL_seasons_136 rfl rfl ?_
    replace h := Option.bind_eq_some_iff.mp h; obtain ⟨r12, hr12, h⟩ := h
    refine ev_invS (M1 := M_L_size) (as := [vi e7.2.2]) dL_seasons_138 rfl tw_708 cal_L_size tw_709 (by decide) rfl rfl (Nat.le_of_ble_eq_true rfl) (met_L_size e7.2.2 w _ hr12) ?_
    by_cases hc : r10 = r12
    · rw [if_pos hc] at h
      refine ev_icmp_ne_f (q := 144) (t0 := 163) dL_seasons_141 (by decide) rfl hc ?_
      refine ev_aload_n (q := 145) dL_seasons_144 rfl rfl ?_
      refine ev_iload_n (q := 146) dL_seasons_145 rfl rfl ?_
      refine ev_iload (q := 148) dL_seasons_146 rfl rfl ?_
      refine ev_iconst (q := 149) (v := (2 : Int32)) dL_seasons_148 rfl (by decide) ?_
      replace h := Option.bind_eq_some_iff.mp h; obtain ⟨q14, hq14, h⟩ := h
      obtain ⟨hxq14, fsq14, hkq14⟩ := kO_spec hq14
      cases hxq14
      replace h := Option.bind_eq_some_iff.mp h; obtain ⟨r13, hr13, h⟩ := h
      refine ev_invV (M1 := M_X10_seasons) (as := [vi v3, vi v4, vi ((2 : Int32))]) (fs := fsq14) (ci := 10) dL_seasons_149 rfl tw_641 cal_X10_seasons tw_642 tw_643 (by decide) rfl rfl (Nat.le_of_ble_eq_true rfl) hkq14 rfl (met_X10_seasons q9 v3 v4 (2 : Int32) w _ hr13) ?_
      refine ev_i2l (q := 153) dL_seasons_152 rfl ?_
      refine ev_lload (q := 155) dL_seasons_153 rfl rfl ?_
      refine ev_lcmp (q := 156) dL_seasons_155 rfl ?_
      by_cases hc : lg_cmp r13.toInt64 e7.1 = 0
      · rw [if_pos hc] at h
        refine ev_if_ne_f (q := 159) (t0 := 163) dL_seasons_156 (by decide) rfl hc ?_
        refine ev_iconst (q := 160) (v := (1 : Int32)) dL_seasons_159 rfl (by decide) ?_
        refine ev_goto (q := 164) dL_seasons_160 (by decide) ?_
        exact ev_weak _ (mLe_none (mLe_none (mLe_none (mLe_none (mLe_none (mLe_none (mLe_none (mLe_none (mLe_none (mLe_none (mLe_none (mLe_none (mLe_none mLe_nil))))))))))))) (e_L_seasons_J164 (1 : Int32) w _ h)
      · rw [if_neg hc] at h
        refine ev_if_ne_t (q := 163) dL_seasons_156 (by decide) hc ?_
        exact ev_weak _ (mLe_none (mLe_none (mLe_none (mLe_none (mLe_none (mLe_none (mLe_none (mLe_none (mLe_none (mLe_none (mLe_none (mLe_none (mLe_none mLe_nil))))))))))))) (e_L_seasons_J163 w _ h)
    · rw [if_neg hc] at h
      refine ev_icmp_ne_t (q := 163) dL_seasons_141 (by decide) hc ?_
      exact ev_weak _ (mLe_none (mLe_none (mLe_none (mLe_none (mLe_none (mLe_none (mLe_none (mLe_none (mLe_none (mLe_none (mLe_none (mLe_none (mLe_none mLe_nil))))))))))))) (e_L_seasons_J163 w _ h)
  · rw [if_neg hc] at h
    refine ev_icmp_ne_t (q := 163) dL_seasons_125 (by decide) hc ?_
    exact ev_weak _ (mLe_none (mLe_none (mLe_none (mLe_none (mLe_none (mLe_none (mLe_none (mLe_none (mLe_none (mLe_none (mLe_none (mLe_none (mLe_none mLe_nil))))))))))))) (e_L_seasons_J163 w _ h)
