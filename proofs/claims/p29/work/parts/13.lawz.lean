abbrev M_L_law : mM := (yL_law, cL_law, 8, some .boolean)
def f_L_law_J704 (X : mXs) (s0 : Int32) (w : mW) : Option (Int32 × mW) := if s0 = 0 ∨ s0 = 1 then some ((s0, w)) else none
set_option maxRecDepth 100000 in
set_option maxHeartbeats 4000000 in
theorem e_L_law_J704 {X : mXs} (s0 : Int32) (w : mW) (res : Int32 × mW) (h : f_L_law_J704 X s0 w = some res) : mEv X M_L_law 8 (some (vi res.1)) res.2 704 [none, none, none, none, none, none, none, none] [vi s0] w := by
  unfold f_L_law_J704 at h
  by_cases hz : s0 = 0 ∨ s0 = 1
  · rw [if_pos hz] at h
    cases h
    exact ev_zret dL_law_704 rfl hz
  · rw [if_neg hz] at h
    cases h
def f_L_law_J703 (X : mXs) (w : mW) : Option (Int32 × mW) := f_L_law_J704 X (0 : Int32) w
set_option maxRecDepth 100000 in
set_option maxHeartbeats 4000000 in
theorem e_L_law_J703 {X : mXs} (w : mW) (res : Int32 × mW) (h : f_L_law_J703 X w = some res) : mEv X M_L_law 8 (some (vi res.1)) res.2 703 [none, none, none, none, none, none, none, none] [] w := by
  unfold f_L_law_J703 at h
  refine ev_iconst (q := 704) (v := (0 : Int32)) dL_law_703 rfl (by decide) ?_
  exact ev_weak _ (mLe_none (mLe_none (mLe_none (mLe_none (mLe_none (mLe_none (mLe_none (mLe_none mLe_nil)))))))) (e_L_law_J704 (0 : Int32) w _ h)
def f_L_law_J284 (X : mXs) (kc : Int32 → mW → Option ((Int32 × mW) ⊕ (mW))) (v1 : Option Nat) (v2 : Option Nat) (v3 : Option Nat) (v6 : Int32) (w : mW) : Option ((Int32 × mW) ⊕ (mW)) := kc (v6 + (1 : Int32)) w
set_option maxRecDepth 100000 in
set_option maxHeartbeats 4000000 in
theorem e_L_law_J284 {X : mXs} {r : Option mV} {w' : mW} (P : ((Int32 × mW) ⊕ (mW)) → Prop) (v1 : Option Nat) (v2 : Option Nat) (v3 : Option Nat) (v6 : Int32) (w : mW) (kc : Int32 → mW → Option ((Int32 × mW) ⊕ (mW))) (hk : ∀ (u6 : Int32) (uw : mW) (e : (Int32 × mW) ⊕ (mW)), kc u6 uw = some e → P e → mEv X M_L_law 8 r w' 162 [some (vx 0), some (vr v1), some (vr v2), some (vr v3), none, none, some (vi u6), none] [] uw) (e : (Int32 × mW) ⊕ (mW)) (h : f_L_law_J284 X kc v1 v2 v3 v6 w = some e) (hP : P e) : mEv X M_L_law 8 r w' 284 [some (vx 0), some (vr v1), some (vr v2), some (vr v3), none, none, some (vi v6), none] [] w := by
  unfold f_L_law_J284 at h
  refine ev_iinc (q := 287) (v := v6 + (1 : Int32)) dL_law_284 rfl (by decide) rfl (by rfl) ?_
  refine ev_goto (q := 162) dL_law_287 (by decide) ?_
  exact ev_weak _ (mLe_some (mLe_some (mLe_some (mLe_some (mLe_none (mLe_none (mLe_some (mLe_none mLe_nil)))))))) (hk (v6 + (1 : Int32)) w _ h hP)
def f_L_law_J239 (X : mXs) (kc : Int32 → mW → Option ((Int32 × mW) ⊕ (mW))) (v1 : Option Nat) (v2 : Option Nat) (v3 : Option Nat) (v6 : Int32) (v7 : Int32) (w : mW) : Option ((Int32 × mW) ⊕ (mW)) := if v6 - v6 / (8 : Int32) * (8 : Int32) = 0 then (Option.bind (f_L_at (v7 >>> ((3 : Int32) &&& 31)) (60 : Int32) w) fun r1 => Option.bind (f_L_cell X ((41 : Int32) + (v6 / (8 : Int32))) w) fun r2 => Option.bind (f_L_seasons v1 v2 v3 ((1 : Int32) + r1) (r2 &&& (2147483647 : Int32)) w) fun r3 => if r3 = 0 then (some (.inl ((0 : Int32), w))) else (f_L_law_J284 X kc v1 v2 v3 v6 w)) else (f_L_law_J284 X kc v1 v2 v3 v6 w)
set_option maxRecDepth 100000 in
set_option maxHeartbeats 4000000 in
theorem e_L_law_J239 {X : mXs} {r : Option mV} {w' : mW} (P : ((Int32 × mW) ⊕ (mW)) → Prop) (v1 : Option Nat) (v2 : Option Nat) (v3 : Option Nat) (v6 : Int32) (v7 : Int32) (w : mW) (hret : ∀ y, P (.inl y) → r = (some (vi y.1)) ∧ w' = y.2) (kc : Int32 → mW → Option ((Int32 × mW) ⊕ (mW))) (hk : ∀ (u6 : Int32) (uw : mW) (e : (Int32 × mW) ⊕ (mW)), kc u6 uw = some e → P e → mEv X M_L_law 8 r w' 162 [some (vx 0), some (vr v1), some (vr v2), some (vr v3), none, none, some (vi u6), none] [] uw) (e : (Int32 × mW) ⊕ (mW)) (h : f_L_law_J239 X kc v1 v2 v3 v6 v7 w = some e) (hP : P e) : mEv X M_L_law 8 r w' 239 [some (vx 0), some (vr v1), some (vr v2), some (vr v3), none, none, some (vi v6), some (vi v7)] [] w := by
  unfold f_L_law_J239 at h
  refine ev_iload (q := 241) dL_law_239 rfl rfl ?_
  refine ev_bipush (q := 243) (v := (8 : Int32)) dL_law_241 rfl (by decide) ?_
  refine ev_irem (q := 244) dL_law_243 rfl (by decide) ?_
  by_cases hc : v6 - v6 / (8 : Int32) * (8 : Int32) = 0
  · rw [if_pos hc] at h
    refine ev_if_ne_f (q := 247) (t0 := 284) dL_law_244 (by decide) rfl hc ?_
    refine ev_aload_n (q := 248) dL_law_247 rfl rfl ?_
    refine ev_aload_n (q := 249) dL_law_248 rfl rfl ?_
    refine ev_aload_n (q := 250) dL_law_249 rfl rfl ?_
    refine ev_iconst (q := 251) (v := (1 : Int32)) dL_law_250 rfl (by decide) ?_
    refine ev_iload (q := 253) dL_law_251 rfl rfl ?_
    refine ev_iconst (q := 254) (v := (3 : Int32)) dL_law_253 rfl (by decide) ?_
    refine ev_ishr (q := 255) dL_law_254 rfl ?_
    refine ev_bipush (q := 257) (v := (60 : Int32)) dL_law_255 rfl (by decide) ?_
    replace h := Option.bind_eq_some_iff.mp h; obtain ⟨r1, hr1, h⟩ := h
    refine ev_invS (M1 := M_L_at) (as := [vi (v7 >>> ((3 : Int32) &&& 31)), vi ((60 : Int32))]) dL_law_257 rfl tw_659 cal_L_at tw_660 (by decide) rfl rfl (Nat.le_of_ble_eq_true rfl) (met_L_at (v7 >>> ((3 : Int32) &&& 31)) (60 : Int32) w _ hr1) ?_
    refine ev_iadd (q := 261) dL_law_260 rfl ?_
    refine ev_aload_n (q := 262) dL_law_261 rfl rfl ?_
    refine ev_bipush (q := 264) (v := (41 : Int32)) dL_law_262 rfl (by decide) ?_
    refine ev_iload (q := 266) dL_law_264 rfl rfl ?_
    refine ev_bipush (q := 268) (v := (8 : Int32)) dL_law_266 rfl (by decide) ?_
    refine ev_idiv (q := 269) dL_law_268 rfl (by decide) ?_
    refine ev_iadd (q := 270) dL_law_269 rfl ?_
    replace h := Option.bind_eq_some_iff.mp h; obtain ⟨r2, hr2, h⟩ := h
    refine ev_invSX (M1 := M_L_cell) (as := [vx 0, vi ((41 : Int32) + (v6 / (8 : Int32)))]) dL_law_270 rfl tw_655 cal_L_cell tw_656 (by decide) rfl rfl (Nat.le_of_ble_eq_true rfl) (met_L_cell X ((41 : Int32) + (v6 / (8 : Int32))) w _ hr2) ?_
    refine ev_ldc (q := 275) (v := (2147483647 : Int32)) dL_law_273 rfl tw_736 ?_
    refine ev_iand (q := 276) dL_law_275 rfl ?_
    replace h := Option.bind_eq_some_iff.mp h; obtain ⟨r3, hr3, h⟩ := h
    refine ev_invS (M1 := M_L_seasons) (as := [vr v1, vr v2, vr v3, vi ((1 : Int32) + r1), vi (r2 &&& (2147483647 : Int32))]) dL_law_276 rfl tw_724 cal_L_seasons tw_725 (by decide) rfl rfl (Nat.le_of_ble_eq_true rfl) (met_L_seasons v1 v2 v3 ((1 : Int32) + r1) (r2 &&& (2147483647 : Int32)) w _ hr3) ?_
    by_cases hc : r3 = 0
    · rw [if_pos hc] at h
      refine ev_if_ne_f (q := 282) (t0 := 284) dL_law_279 (by decide) rfl hc ?_
      refine ev_iconst (q := 283) (v := (0 : Int32)) dL_law_282 rfl (by decide) ?_
      cases h
      obtain ⟨hr1, hr2⟩ := hret _ hP
      subst hr1
      subst hr2
      exact ev_zret dL_law_283 rfl (Or.inl rfl)
    · rw [if_neg hc] at h
      refine ev_if_ne_t (q := 284) dL_law_279 (by decide) hc ?_
      exact ev_weak _ (mLe_some (mLe_some (mLe_some (mLe_some (mLe_none (mLe_none (mLe_some (mLe_none mLe_nil)))))))) (e_L_law_J284 P v1 v2 v3 v6 w _ hk  _ h hP)
  · rw [if_neg hc] at h
    refine ev_if_ne_t (q := 284) dL_law_244 (by decide) hc ?_
    exact ev_weak _ (mLe_some (mLe_some (mLe_some (mLe_some (mLe_none (mLe_none (mLe_some (mLe_none mLe_nil)))))))) (e_L_law_J284 P v1 v2 v3 v6 w _ hk  _ h hP)
def f_L_law_J200 (X : mXs) (w : mW) : Option ((Int32 × mW) ⊕ (mW)) := some (.inl ((0 : Int32), w))
set_option maxRecDepth 100000 in
set_option maxHeartbeats 4000000 in
theorem e_L_law_J200 {X : mXs} {r : Option mV} {w' : mW} (P : ((Int32 × mW) ⊕ (mW)) → Prop) (w : mW) (hret : ∀ y, P (.inl y) → r = (some (vi y.1)) ∧ w' = y.2) (e : (Int32 × mW) ⊕ (mW)) (h : f_L_law_J200 X w = some e) (hP : P e) : mEv X M_L_law 8 r w' 200 [none, none, none, none, none, none, none, none] [] w := by
  unfold f_L_law_J200 at h
  refine ev_iconst (q := 201) (v := (0 : Int32)) dL_law_200 rfl (by decide) ?_
  cases h
  obtain ⟨hr1, hr2⟩ := hret _ hP
  subst hr1
  subst hr2
  exact ev_zret dL_law_201 rfl (Or.inl rfl)
def f_L_law_L162 (X : mXs) (v1 : Option Nat) (v2 : Option Nat) (v3 : Option Nat) : Nat → Int32 → mW → Option ((Int32 × mW) ⊕ (mW))
  | 0, _, _ => none
  | n + 1, v6, w => if (30 : Int32) ≤ v6 then (some (.inr w)) else (Option.bind (f_L_cell X ((11 : Int32) + v6) w) fun r4 => Option.bind (f_L_does v1 v2 v3 r4 w) fun r5 => if r5.1 = 0 then (f_L_law_J200 X r5.2) else (Option.bind (f_L_stands v1 v2 v3 r5.2) fun r6 => if r6.1 = 0 then (f_L_law_J200 X r6.2) else (if v6 - v6 / (3 : Int32) * (3 : Int32) = 0 then (Option.bind (aL r6.2 v2 (1 : Int32)) fun r7 => Option.bind (f_L_at (r4 >>> ((3 : Int32) &&& 31)) r7 r6.2) fun r8 => Option.bind (f_L_at (r4 >>> ((5 : Int32) &&& 31)) (36 : Int32) r6.2) fun r9 => Option.bind (f_L_lies v1 v2 v3 r8 r9 r6.2) fun r10 => if r10 = 0 then (some (.inl ((0 : Int32), r6.2))) else (f_L_law_J239 X (f_L_law_L162 X v1 v2 v3 n) v1 v2 v3 v6 r4 r6.2)) else (f_L_law_J239 X (f_L_law_L162 X v1 v2 v3 n) v1 v2 v3 v6 r4 r6.2))))
set_option maxRecDepth 100000 in
set_option maxHeartbeats 4000000 in
theorem e_L_law_L162 {X : mXs} {r : Option mV} {w' : mW} (P : ((Int32 × mW) ⊕ (mW)) → Prop) (v1 : Option Nat) (v2 : Option Nat) (v3 : Option Nat) (hret : ∀ y, P (.inl y) → r = (some (vi y.1)) ∧ w' = y.2) (hexit : ∀ y, P (.inr y) → mEv X M_L_law 8 r w' 290 [none, some (vr v1), some (vr v2), some (vr v3), none, none, none, none] [] y) : ∀ (n : Nat) (v6 : Int32) (w : mW) (e : (Int32 × mW) ⊕ (mW)), f_L_law_L162 X v1 v2 v3 n v6 w = some e → P e → mEv X M_L_law 8 r w' 162 [some (vx 0), some (vr v1), some (vr v2), some (vr v3), none, none, some (vi v6), none] [] w := by
  intro n
  induction n with
  | zero =>
    intro v6 w e h hP
    rw [f_L_law_L162] at h
    cases h
  | succ n hk =>
    intro v6 w e h hP
    rw [f_L_law_L162] at h
    refine ev_iload (q := 164) dL_law_162 rfl rfl ?_
    refine ev_bipush (q := 166) (v := (30 : Int32)) dL_law_164 rfl (by decide) ?_
    by_cases hc : (30 : Int32) ≤ v6
    · rw [if_pos hc] at h
      refine ev_icmp_ge_t (q := 290) dL_law_166 (by decide) hc ?_
      cases h
      exact ev_weak _ (mLe_none (mLe_some (mLe_some (mLe_some (mLe_none (mLe_none (mLe_none (mLe_none mLe_nil)))))))) (hexit _ hP)
    · rw [if_neg hc] at h
      refine ev_icmp_ge_f (q := 169) (t0 := 290) dL_law_166 (by decide) rfl hc ?_
      refine ev_aload_n (q := 170) dL_law_169 rfl rfl ?_
      refine ev_bipush (q := 172) (v := (11 : Int32)) dL_law_170 rfl (by decide) ?_
      refine ev_iload (q := 174) dL_law_172 rfl rfl ?_
      refine ev_iadd (q := 175) dL_law_174 rfl ?_
      replace h := Option.bind_eq_some_iff.mp h; obtain ⟨r4, hr4, h⟩ := h
      refine ev_invSX (M1 := M_L_cell) (as := [vx 0, vi ((11 : Int32) + v6)]) dL_law_175 rfl tw_655 cal_L_cell tw_656 (by decide) rfl rfl (Nat.le_of_ble_eq_true rfl) (met_L_cell X ((11 : Int32) + v6) w _ hr4) ?_
      refine ev_istore (q := 180) dL_law_178 rfl (by decide) ?_
      refine ev_aload_n (q := 181) dL_law_180 rfl rfl ?_
      refine ev_aload_n (q := 182) dL_law_181 rfl rfl ?_
      refine ev_aload_n (q := 183) dL_law_182 rfl rfl ?_
      refine ev_iload (q := 185) dL_law_183 rfl rfl ?_
      replace h := Option.bind_eq_some_iff.mp h; obtain ⟨r5, hr5, h⟩ := h
      refine ev_invS (M1 := M_L_does) (as := [vr v1, vr v2, vr v3, vi r4]) dL_law_185 rfl tw_690 cal_L_does tw_691 (by decide) rfl rfl (Nat.le_of_ble_eq_true rfl) (met_L_does v1 v2 v3 r4 w _ hr5) ?_
      by_cases hc : r5.1 = 0
      · rw [if_pos hc] at h
        refine ev_if_eq_t (q := 200) dL_law_188 (by decide) hc ?_
        exact ev_weak _ (mLe_none (mLe_none (mLe_none (mLe_none (mLe_none (mLe_none (mLe_none (mLe_none mLe_nil)))))))) (e_L_law_J200 P r5.2 hret  _ h hP)
      · rw [if_neg hc] at h
        refine ev_if_eq_f (q := 191) (t0 := 200) dL_law_188 (by decide) rfl hc ?_
        refine ev_aload_n (q := 192) dL_law_191 rfl rfl ?_
        refine ev_aload_n (q := 193) dL_law_192 rfl rfl ?_
        refine ev_aload_n (q := 194) dL_law_193 rfl rfl ?_
        replace h := Option.bind_eq_some_iff.mp h; obtain ⟨r6, hr6, h⟩ := h
        refine ev_invS (M1 := M_L_stands) (as := [vr v1, vr v2, vr v3]) dL_law_194 rfl tw_677 cal_L_stands tw_678 (by decide) rfl rfl (Nat.le_of_ble_eq_true rfl) (met_L_stands v1 v2 v3 r5.2 _ hr6) ?_
        by_cases hc : r6.1 = 0
        · rw [if_pos hc] at h
          refine ev_if_ne_f (q := 200) (t0 := 202) dL_law_197 (by decide) rfl hc ?_
          exact ev_weak _ (mLe_none (mLe_none (mLe_none (mLe_none (mLe_none (mLe_none (mLe_none (mLe_none mLe_nil)))))))) (e_L_law_J200 P r6.2 hret  _ h hP)
        · rw [if_neg hc] at h
          refine ev_if_ne_t (q := 202) dL_law_197 (by decide) hc ?_
          refine ev_iload (q := 204) dL_law_202 rfl rfl ?_
          refine ev_iconst (q := 205) (v := (3 : Int32)) dL_law_204 rfl (by decide) ?_
          refine ev_irem (q := 206) dL_law_205 rfl (by decide) ?_
          by_cases hc : v6 - v6 / (3 : Int32) * (3 : Int32) = 0
          · rw [if_pos hc] at h
            refine ev_if_ne_f (q := 209) (t0 := 239) dL_law_206 (by decide) rfl hc ?_
            refine ev_aload_n (q := 210) dL_law_209 rfl rfl ?_
            refine ev_aload_n (q := 211) dL_law_210 rfl rfl ?_
            refine ev_aload_n (q := 212) dL_law_211 rfl rfl ?_
            refine ev_iload (q := 214) dL_law_212 rfl rfl ?_
            refine ev_iconst (q := 215) (v := (3 : Int32)) dL_law_214 rfl (by decide) ?_
            refine ev_ishr (q := 216) dL_law_215 rfl ?_
            refine ev_aload_n (q := 217) dL_law_216 rfl rfl ?_
            refine ev_iconst (q := 218) (v := (1 : Int32)) dL_law_217 rfl (by decide) ?_
            replace h := Option.bind_eq_some_iff.mp h; obtain ⟨r7, hr7, h⟩ := h
            refine ev_aL dL_law_218 hr7 rfl ?_
            replace h := Option.bind_eq_some_iff.mp h; obtain ⟨r8, hr8, h⟩ := h
            refine ev_invS (M1 := M_L_at) (as := [vi (r4 >>> ((3 : Int32) &&& 31)), vi r7]) dL_law_219 rfl tw_659 cal_L_at tw_660 (by decide) rfl rfl (Nat.le_of_ble_eq_true rfl) (met_L_at (r4 >>> ((3 : Int32) &&& 31)) r7 r6.2 _ hr8) ?_
            refine ev_iload (q := 224) dL_law_222 rfl rfl ?_
            refine ev_iconst (q := 225) (v := (5 : Int32)) dL_law_224 rfl (by decide) ?_
            refine ev_ishr (q := 226) dL_law_225 rfl ?_
            refine ev_bipush (q := 228) (v := (36 : Int32)) dL_law_226 rfl (by decide) ?_
            replace h := Option.bind_eq_some_iff.mp h; obtain ⟨r9, hr9, h⟩ := h
            refine ev_invS (M1 := M_L_at) (as := [vi (r4 >>> ((5 : Int32) &&& 31)), vi ((36 : Int32))]) dL_law_228 rfl tw_659 cal_L_at tw_660 (by decide) rfl rfl (Nat.le_of_ble_eq_true rfl) (met_L_at (r4 >>> ((5 : Int32) &&& 31)) (36 : Int32) r6.2 _ hr9) ?_
            replace h := Option.bind_eq_some_iff.mp h; obtain ⟨r10, hr10, h⟩ := h
            refine ev_invS (M1 := M_L_lies) (as := [vr v1, vr v2, vr v3, vi r8, vi r9]) dL_law_231 rfl tw_721 cal_L_lies tw_722 (by decide) rfl rfl (Nat.le_of_ble_eq_true rfl) (met_L_lies v1 v2 v3 r8 r9 r6.2 _ hr10) ?_
            by_cases hc : r10 = 0
            · rw [if_pos hc] at h
              refine ev_if_ne_f (q := 237) (t0 := 239) dL_law_234 (by decide) rfl hc ?_
              refine ev_iconst (q := 238) (v := (0 : Int32)) dL_law_237 rfl (by decide) ?_
              cases h
              obtain ⟨hr1, hr2⟩ := hret _ hP
              subst hr1
              subst hr2
              exact ev_zret dL_law_238 rfl (Or.inl rfl)
            · rw [if_neg hc] at h
              refine ev_if_ne_t (q := 239) dL_law_234 (by decide) hc ?_
              exact ev_weak _ (mLe_some (mLe_some (mLe_some (mLe_some (mLe_none (mLe_none (mLe_some (mLe_some mLe_nil)))))))) (e_L_law_J239 P v1 v2 v3 v6 r4 r6.2 hret _ hk  _ h hP)
          · rw [if_neg hc] at h
            refine ev_if_ne_t (q := 239) dL_law_206 (by decide) hc ?_
            exact ev_weak _ (mLe_some (mLe_some (mLe_some (mLe_some (mLe_none (mLe_none (mLe_some (mLe_some mLe_nil)))))))) (e_L_law_J239 P v1 v2 v3 v6 r4 r6.2 hret _ hk  _ h hP)
def f_L_law_J142 (X : mXs) (kc : Int32 → Option ((Int32 × mW) ⊕ (Unit))) (v1 : Option Nat) (v2 : Option Nat) (v3 : Option Nat) (v6 : Int32) (v7 : Int32) (s0 : Int32) (s1 : Int32) (w : mW) : Option ((Int32 × mW) ⊕ (Unit)) := if s0 = s1 then (kc (v7 + (1 : Int32))) else (some (.inl ((0 : Int32), w)))
set_option maxRecDepth 100000 in
set_option maxHeartbeats 4000000 in
theorem e_L_law_J142 {X : mXs} {r : Option mV} {w' : mW} (P : ((Int32 × mW) ⊕ (Unit)) → Prop) (v1 : Option Nat) (v2 : Option Nat) (v3 : Option Nat) (v6 : Int32) (v7 : Int32) (s0 : Int32) (s1 : Int32) (w : mW) (hret : ∀ y, P (.inl y) → r = (some (vi y.1)) ∧ w' = y.2) (kc : Int32 → Option ((Int32 × mW) ⊕ (Unit))) (hk : ∀ (u7 : Int32) (e : (Int32 × mW) ⊕ (Unit)), kc u7 = some e → P e → mEv X M_L_law 8 r w' 90 [some (vx 0), some (vr v1), some (vr v2), some (vr v3), none, none, some (vi v6), some (vi u7)] [] w) (e : (Int32 × mW) ⊕ (Unit)) (h : f_L_law_J142 X kc v1 v2 v3 v6 v7 s0 s1 w = some e) (hP : P e) : mEv X M_L_law 8 r w' 142 [some (vx 0), some (vr v1), some (vr v2), some (vr v3), none, none, some (vi v6), some (vi v7)] [vi s1, vi s0] w := by
  unfold f_L_law_J142 at h
  by_cases hc : s0 = s1
  · rw [if_pos hc] at h
    refine ev_icmp_eq_t (q := 147) dL_law_142 (by decide) hc ?_
    refine ev_iinc (q := 150) (v := v7 + (1 : Int32)) dL_law_147 rfl (by decide) rfl (by rfl) ?_
    refine ev_goto (q := 90) dL_law_150 (by decide) ?_
    exact ev_weak _ (mLe_some (mLe_some (mLe_some (mLe_some (mLe_none (mLe_none (mLe_some (mLe_some mLe_nil)))))))) (hk (v7 + (1 : Int32)) _ h hP)
  · rw [if_neg hc] at h
    refine ev_icmp_eq_f (q := 145) (t0 := 147) dL_law_142 (by decide) rfl hc ?_
    refine ev_iconst (q := 146) (v := (0 : Int32)) dL_law_145 rfl (by decide) ?_
    cases h
    obtain ⟨hr1, hr2⟩ := hret _ hP
    subst hr1
    subst hr2
    exact ev_zret dL_law_146 rfl (Or.inl rfl)
def f_L_law_J141 (X : mXs) (kc : Int32 → Option ((Int32 × mW) ⊕ (Unit))) (v1 : Option Nat) (v2 : Option Nat) (v3 : Option Nat) (v6 : Int32) (v7 : Int32) (s0 : Int32) (w : mW) : Option ((Int32 × mW) ⊕ (Unit)) := f_L_law_J142 X kc v1 v2 v3 v6 v7 s0 (-1 : Int32) w
set_option maxRecDepth 100000 in
set_option maxHeartbeats 4000000 in
theorem e_L_law_J141 {X : mXs} {r : Option mV} {w' : mW} (P : ((Int32 × mW) ⊕ (Unit)) → Prop) (v1 : Option Nat) (v2 : Option Nat) (v3 : Option Nat) (v6 : Int32) (v7 : Int32) (s0 : Int32) (w : mW) (hret : ∀ y, P (.inl y) → r = (some (vi y.1)) ∧ w' = y.2) (kc : Int32 → Option ((Int32 × mW) ⊕ (Unit))) (hk : ∀ (u7 : Int32) (e : (Int32 × mW) ⊕ (Unit)), kc u7 = some e → P e → mEv X M_L_law 8 r w' 90 [some (vx 0), some (vr v1), some (vr v2), some (vr v3), none, none, some (vi v6), some (vi u7)] [] w) (e : (Int32 × mW) ⊕ (Unit)) (h : f_L_law_J141 X kc v1 v2 v3 v6 v7 s0 w = some e) (hP : P e) : mEv X M_L_law 8 r w' 141 [some (vx 0), some (vr v1), some (vr v2), some (vr v3), none, none, some (vi v6), some (vi v7)] [vi s0] w := by
  unfold f_L_law_J141 at h
  refine ev_iconst (q := 142) (v := (-1 : Int32)) dL_law_141 rfl (by decide) ?_
  exact ev_weak _ (mLe_some (mLe_some (mLe_some (mLe_some (mLe_none (mLe_none (mLe_some (mLe_some mLe_nil)))))))) (e_L_law_J142 P v1 v2 v3 v6 v7 s0 (-1 : Int32) w hret _ hk  _ h hP)
def f_L_law_J136 (X : mXs) (kc : Int32 → Option ((Int32 × mW) ⊕ (Unit))) (v1 : Option Nat) (v2 : Option Nat) (v3 : Option Nat) (v6 : Int32) (v7 : Int32) (s0 : Int32) (w : mW) : Option ((Int32 × mW) ⊕ (Unit)) := f_L_law_J142 X kc v1 v2 v3 v6 v7 s0 v6 w
set_option maxRecDepth 100000 in
set_option maxHeartbeats 4000000 in
theorem e_L_law_J136 {X : mXs} {r : Option mV} {w' : mW} (P : ((Int32 × mW) ⊕ (Unit)) → Prop) (v1 : Option Nat) (v2 : Option Nat) (v3 : Option Nat) (v6 : Int32) (v7 : Int32) (s0 : Int32) (w : mW) (hret : ∀ y, P (.inl y) → r = (some (vi y.1)) ∧ w' = y.2) (kc : Int32 → Option ((Int32 × mW) ⊕ (Unit))) (hk : ∀ (u7 : Int32) (e : (Int32 × mW) ⊕ (Unit)), kc u7 = some e → P e → mEv X M_L_law 8 r w' 90 [some (vx 0), some (vr v1), some (vr v2), some (vr v3), none, none, some (vi v6), some (vi u7)] [] w) (e : (Int32 × mW) ⊕ (Unit)) (h : f_L_law_J136 X kc v1 v2 v3 v6 v7 s0 w = some e) (hP : P e) : mEv X M_L_law 8 r w' 136 [some (vx 0), some (vr v1), some (vr v2), some (vr v3), none, none, some (vi v6), some (vi v7)] [vi s0] w := by
  unfold f_L_law_J136 at h
  refine ev_iload (q := 138) dL_law_136 rfl rfl ?_
  refine ev_goto (q := 142) dL_law_138 (by decide) ?_
  exact ev_weak _ (mLe_some (mLe_some (mLe_some (mLe_some (mLe_none (mLe_none (mLe_some (mLe_some mLe_nil)))))))) (e_L_law_J142 P v1 v2 v3 v6 v7 s0 v6 w hret _ hk  _ h hP)
def f_L_law_L90 (X : mXs) (v1 : Option Nat) (v2 : Option Nat) (v3 : Option Nat) (v6 : Int32) (w : mW) : Nat → Int32 → Option ((Int32 × mW) ⊕ (Unit))
  | 0, _ => none
  | n + 1, v7 => if (5 : Int32) ≤ v7 then (some (.inr ())) else (Option.bind (kO w v1 10) fun q12 => Option.bind (f_X10_as q12 v6 v7 w) fun r11 => if v7 = 0 then (f_L_law_J136 X (f_L_law_L90 X v1 v2 v3 v6 w n) (some q12) v2 v3 v6 v7 r11 w) else (Option.bind (aL w v2 ((2 : Int32) + v6)) fun r13 => if v7 = r13 then (f_L_law_J136 X (f_L_law_L90 X v1 v2 v3 v6 w n) (some q12) v2 v3 v6 v7 r11 w) else (if v7 = (2 : Int32) then (Option.bind (aL w v2 ((2 : Int32) + v6)) fun r14 => if r14 = (4 : Int32) then (f_L_law_J136 X (f_L_law_L90 X v1 v2 v3 v6 w n) (some q12) v2 v3 v6 v7 r11 w) else (f_L_law_J141 X (f_L_law_L90 X v1 v2 v3 v6 w n) (some q12) v2 v3 v6 v7 r11 w)) else (f_L_law_J141 X (f_L_law_L90 X v1 v2 v3 v6 w n) (some q12) v2 v3 v6 v7 r11 w))))
set_option maxRecDepth 100000 in
set_option maxHeartbeats 4000000 in
theorem e_L_law_L90 {X : mXs} {r : Option mV} {w' : mW} (P : ((Int32 × mW) ⊕ (Unit)) → Prop) (v1 : Option Nat) (v2 : Option Nat) (v3 : Option Nat) (v6 : Int32) (w : mW) (hret : ∀ y, P (.inl y) → r = (some (vi y.1)) ∧ w' = y.2) (hexit : ∀ y, P (.inr y) → mEv X M_L_law 8 r w' 153 [some (vx 0), some (vr v1), some (vr v2), some (vr v3), none, none, some (vi v6), none] [] w) : ∀ (n : Nat) (v7 : Int32) (e : (Int32 × mW) ⊕ (Unit)), f_L_law_L90 X v1 v2 v3 v6 w n v7 = some e → P e → mEv X M_L_law 8 r w' 90 [some (vx 0), some (vr v1), some (vr v2), some (vr v3), none, none, some (vi v6), some (vi v7)] [] w := by
  intro n
  induction n with
  | zero =>
    intro v7 e h hP
    rw [f_L_law_L90] at h
    cases h
  | succ n hk =>
    intro v7 e h hP
    rw [f_L_law_L90] at h
    refine ev_iload (q := 92) dL_law_90 rfl rfl ?_
    refine ev_iconst (q := 93) (v := (5 : Int32)) dL_law_92 rfl (by decide) ?_
    by_cases hc : (5 : Int32) ≤ v7
    · rw [if_pos hc] at h
      refine ev_icmp_ge_t (q := 153) dL_law_93 (by decide) hc ?_
      cases h
      exact ev_weak _ (mLe_some (mLe_some (mLe_some (mLe_some (mLe_none (mLe_none (mLe_some (mLe_none mLe_nil)))))))) (hexit _ hP)
    · rw [if_neg hc] at h
      refine ev_icmp_ge_f (q := 96) (t0 := 153) dL_law_93 (by decide) rfl hc ?_
      refine ev_aload_n (q := 97) dL_law_96 rfl rfl ?_
      refine ev_iload (q := 99) dL_law_97 rfl rfl ?_
      refine ev_iload (q := 101) dL_law_99 rfl rfl ?_
      replace h := Option.bind_eq_some_iff.mp h; obtain ⟨q12, hq12, h⟩ := h
      obtain ⟨hxq12, fsq12, hkq12⟩ := kO_spec hq12
      subst hxq12
      replace h := Option.bind_eq_some_iff.mp h; obtain ⟨r11, hr11, h⟩ := h
      refine ev_invV (M1 := M_X10_as) (as := [vi v6, vi v7]) (fs := fsq12) (ci := 10) dL_law_101 rfl tw_581 cal_X10_as tw_582 tw_583 (by decide) rfl rfl (Nat.le_of_ble_eq_true rfl) hkq12 rfl (met_X10_as q12 v6 v7 w _ hr11) ?_
      refine ev_iload (q := 106) dL_law_104 rfl rfl ?_
      by_cases hc : v7 = 0
      · rw [if_pos hc] at h
        refine ev_if_eq_t (q := 136) dL_law_106 (by decide) hc ?_
        exact ev_weak _ (mLe_some (mLe_some (mLe_some (mLe_some (mLe_none (mLe_none (mLe_some (mLe_some mLe_nil)))))))) (e_L_law_J136 P (some q12) v2 v3 v6 v7 r11 w hret _ hk  _ h hP)
      · rw [if_neg hc] at h
        refine ev_if_eq_f (q := 109) (t0 := 136) dL_law_106 (by decide) rfl hc ?_
        refine ev_iload (q := 111) dL_law_109 rfl rfl ?_
        refine ev_aload_n (q := 112) dL_law_111 rfl rfl ?_
        refine ev_iconst (q := 113) (v := (2 : Int32)) dL_law_112 rfl (by decide) ?_
        refine ev_iload (q := 115) dL_law_113 rfl rfl ?_
        refine ev_iadd (q := 116) dL_law_115 rfl ?_
        replace h := Option.bind_eq_some_iff.mp h; obtain ⟨r13, hr13, h⟩ := h
        refine ev_aL dL_law_116 hr13 rfl ?_
        by_cases hc : v7 = r13
        · rw [if_pos hc] at h
          refine ev_icmp_eq_t (q := 136) dL_law_117 (by decide) hc ?_
          exact ev_weak _ (mLe_some (mLe_some (mLe_some (mLe_some (mLe_none (mLe_none (mLe_some (mLe_some mLe_nil)))))))) (e_L_law_J136 P (some q12) v2 v3 v6 v7 r11 w hret _ hk  _ h hP)
        · rw [if_neg hc] at h
          refine ev_icmp_eq_f (q := 120) (t0 := 136) dL_law_117 (by decide) rfl hc ?_
          refine ev_iload (q := 122) dL_law_120 rfl rfl ?_
          refine ev_iconst (q := 123) (v := (2 : Int32)) dL_law_122 rfl (by decide) ?_
          by_cases hc : v7 = (2 : Int32)
          · rw [if_pos hc] at h
            refine ev_icmp_ne_f (q := 126) (t0 := 141) dL_law_123 (by decide) rfl hc ?_
            refine ev_aload_n (q := 127) dL_law_126 rfl rfl ?_
            refine ev_iconst (q := 128) (v := (2 : Int32)) dL_law_127 rfl (by decide) ?_
            refine ev_iload (q := 130) dL_law_128 rfl rfl ?_
            refine ev_iadd (q := 131) dL_law_130 rfl ?_
            replace h := Option.bind_eq_some_iff.mp h; obtain ⟨r14, hr14, h⟩ := h
            refine ev_aL dL_law_131 hr14 rfl ?_
            refine ev_iconst (q := 133) (v := (4 : Int32)) dL_law_132 rfl (by decide) ?_
            by_cases hc : r14 = (4 : Int32)
            · rw [if_pos hc] at h
              refine ev_icmp_ne_f (q := 136) (t0 := 141) dL_law_133 (by decide) rfl hc ?_
              exact ev_weak _ (mLe_some (mLe_some (mLe_some (mLe_some (mLe_none (mLe_none (mLe_some (mLe_some mLe_nil)))))))) (e_L_law_J136 P (some q12) v2 v3 v6 v7 r11 w hret _ hk  _ h hP)
            · rw [if_neg hc] at h
              refine ev_icmp_ne_t (q := 141) dL_law_133 (by decide) hc ?_
              exact ev_weak _ (mLe_some (mLe_some (mLe_some (mLe_some (mLe_none (mLe_none (mLe_some (mLe_some mLe_nil)))))))) (e_L_law_J141 P (some q12) v2 v3 v6 v7 r11 w hret _ hk  _ h hP)
          · rw [if_neg hc] at h
            refine ev_icmp_ne_t (q := 141) dL_law_123 (by decide) hc ?_
            exact ev_weak _ (mLe_some (mLe_some (mLe_some (mLe_some (mLe_none (mLe_none (mLe_some (mLe_some mLe_nil)))))))) (e_L_law_J141 P (some q12) v2 v3 v6 v7 r11 w hret _ hk  _ h hP)
def f_L_law_L79 (X : mXs) (v1 : Option Nat) (v2 : Option Nat) (v3 : Option Nat) (w : mW) : Nat → Int32 → Option ((Int32 × mW) ⊕ (Unit))
  | 0, _ => none
  | n + 1, v6 => Option.bind (aL w v2 (1 : Int32)) fun r15 => if r15 ≤ v6 then (some (.inr ())) else (Option.bind (f_L_law_L90 X v1 v2 v3 v6 w mFuel (0 : Int32)) fun e16 => match e16 with | .inl y18 => some (.inl y18) | .inr y17 => (f_L_law_L79 X v1 v2 v3 w n) (v6 + (1 : Int32)))
set_option maxRecDepth 100000 in
set_option maxHeartbeats 4000000 in
theorem e_L_law_L79 {X : mXs} {r : Option mV} {w' : mW} (P : ((Int32 × mW) ⊕ (Unit)) → Prop) (v1 : Option Nat) (v2 : Option Nat) (v3 : Option Nat) (w : mW) (hret : ∀ y, P (.inl y) → r = (some (vi y.1)) ∧ w' = y.2) (hexit : ∀ y, P (.inr y) → mEv X M_L_law 8 r w' 159 [some (vx 0), some (vr v1), some (vr v2), some (vr v3), none, none, none, none] [] w) : ∀ (n : Nat) (v6 : Int32) (e : (Int32 × mW) ⊕ (Unit)), f_L_law_L79 X v1 v2 v3 w n v6 = some e → P e → mEv X M_L_law 8 r w' 79 [some (vx 0), some (vr v1), some (vr v2), some (vr v3), none, none, some (vi v6), none] [] w := by
  intro n
  induction n with
  | zero =>
    intro v6 e h hP
    rw [f_L_law_L79] at h
    cases h
  | succ n hk =>
    intro v6 e h hP
    rw [f_L_law_L79] at h
    refine ev_iload (q := 81) dL_law_79 rfl rfl ?_
    refine ev_aload_n (q := 82) dL_law_81 rfl rfl ?_
    refine ev_iconst (q := 83) (v := (1 : Int32)) dL_law_82 rfl (by decide) ?_
    replace h := Option.bind_eq_some_iff.mp h; obtain ⟨r15, hr15, h⟩ := h
    refine ev_aL dL_law_83 hr15 rfl ?_
    by_cases hc : r15 ≤ v6
    · rw [if_pos hc] at h
      refine ev_icmp_ge_t (q := 159) dL_law_84 (by decide) hc ?_
      cases h
      exact ev_weak _ (mLe_some (mLe_some (mLe_some (mLe_some (mLe_none (mLe_none (mLe_none (mLe_none mLe_nil)))))))) (hexit _ hP)
    · rw [if_neg hc] at h
      refine ev_icmp_ge_f (q := 87) (t0 := 159) dL_law_84 (by decide) rfl hc ?_
      refine ev_iconst (q := 88) (v := (0 : Int32)) dL_law_87 rfl (by decide) ?_
      refine ev_istore (q := 90) dL_law_88 rfl (by decide) ?_
      replace h := Option.bind_eq_some_iff.mp h; obtain ⟨e16, he16, h⟩ := h
      refine ev_weak _ (mLe_some (mLe_some (mLe_some (mLe_some (mLe_none (mLe_none (mLe_some (mLe_some mLe_nil)))))))) (e_L_law_L90 (fun z => e16 = z) v1 v2 v3 v6 w (fun y18 hq => ?_) (fun y17 hq => ?_) mFuel (0 : Int32) _ he16 rfl)
      · subst hq
        dsimp only at h
        cases h
        exact hret _ hP
      · subst hq
        dsimp only at h
        refine ev_iinc (q := 156) (v := v6 + (1 : Int32)) dL_law_153 rfl (by decide) rfl (by rfl) ?_
        refine ev_goto (q := 79) dL_law_156 (by decide) ?_
        exact ev_weak _ (mLe_some (mLe_some (mLe_some (mLe_some (mLe_none (mLe_none (mLe_some (mLe_none mLe_nil)))))))) (hk (v6 + (1 : Int32)) _ h hP)
def f_L_law_J74 (X : mXs) (w : mW) : Option (Int32 × mW) := some (((0 : Int32), w))
set_option maxRecDepth 100000 in
set_option maxHeartbeats 4000000 in
theorem e_L_law_J74 {X : mXs} (w : mW) (res : Int32 × mW) (h : f_L_law_J74 X w = some res) : mEv X M_L_law 8 (some (vi res.1)) res.2 74 [none, none, none, none, none, none, none, none] [] w := by
  unfold f_L_law_J74 at h
  refine ev_iconst (q := 75) (v := (0 : Int32)) dL_law_74 rfl (by decide) ?_
  cases h
  exact ev_zret dL_law_75 rfl (Or.inl rfl)
def f_L_law (X : mXs) (w : mW) : Option (Int32 × mW) := Option.bind (some (w ++ [.inl (10, new_X10)])) fun w19 => Option.bind (f_X10_init w.length  w19) fun w20 => Option.bind (some (w20 ++ [(.inr (.inl (6, fun _ => 0)) : mC)])) fun w21 => Option.bind (some (w21 ++ [(.inr (.inl (39, fun _ => 0)) : mC)])) fun w22 => Option.bind (some (w22 ++ [(.inr (.inl (36, fun _ => 0)) : mC)])) fun w23 => Option.bind (f_L_portText X (0 : Int32) (some w20.length) (some w21.length) (some w22.length) w23) fun r24 => Option.bind (f_L_spell (some w.length) (some w22.length) r24.1 r24.2) fun r25 => if r25.1 = 0 then (f_L_law_J74 X r25.2) else (Option.bind (kO r25.2 (some w.length) 10) fun _ => Option.bind (f_X10_fault w.length  r25.2) fun r26 => if r26.1 = r24.1 then (Option.bind (kO r26.2 (some w.length) 10) fun _ => Option.bind (f_X10_port w.length  r26.2) fun r28 => Option.bind (aL r28.2 (some w20.length) (0 : Int32)) fun r30 => if r28.1 = r30 then (Option.bind (f_L_stands (some w.length) (some w20.length) (some w21.length) r28.2) fun r31 => if r31.1 = 0 then (f_L_law_J74 X r31.2) else (Option.bind (f_L_law_L79 X (some w.length) (some w20.length) (some w21.length) r31.2 mFuel (0 : Int32)) fun e32 => match e32 with | .inl y105 => some y105 | .inr y33 => Option.bind (f_L_law_L162 X (some w.length) (some w20.length) (some w21.length) mFuel (0 : Int32) r31.2) fun e34 => match e34 with | .inl y104 => some y104 | .inr y35 => Option.bind (aL y35 (some w20.length) (0 : Int32)) fun r36 => Option.bind (aL y35 (some w20.length) (1 : Int32)) fun r37 => Option.bind (f_L_seasons (some w.length) (some w20.length) (some w21.length) (60 : Int32) (0 : Int32) y35) fun r38 => if r38 = 0 then (f_L_law_J703 X y35) else (Option.bind (f_L_seasons (some w.length) (some w20.length) (some w21.length) (1 : Int32) (2147483647 : Int32) y35) fun r39 => if r39 = 0 then (f_L_law_J703 X y35) else (Option.bind (kO y35 (some w.length) 10) fun _ => Option.bind (f_X10_sleeper w.length r36 (0 : Int32) y35) fun r40 => if r40.1 = (-101 : Int32) then (Option.bind (kO r40.2 (some w.length) 10) fun _ => Option.bind (f_X10_sleeper w.length (-1 : Int32) (0 : Int32) r40.2) fun r42 => if r42.1 = (-101 : Int32) then (Option.bind (kO r42.2 (some w.length) 10) fun _ => Option.bind (f_X10_sleeper w.length (0 : Int32) (5 : Int32) r42.2) fun r44 => if r44.1 = (-102 : Int32) then (Option.bind (kO r44.2 (some w.length) 10) fun _ => Option.bind (f_X10_tosser w.length r37 (0 : Int32) r44.2) fun r46 => if r46 = (-101 : Int32) then (Option.bind (kO r44.2 (some w.length) 10) fun _ => Option.bind (f_X10_tosser w.length (-1 : Int32) (0 : Int32) r44.2) fun r48 => if r48 = (-101 : Int32) then (Option.bind (kO r44.2 (some w.length) 10) fun _ => Option.bind (f_X10_tosser w.length (0 : Int32) (9 : Int32) r44.2) fun r50 => if r50 = (-102 : Int32) then (Option.bind (kO r44.2 (some w.length) 10) fun _ => Option.bind (f_X10_as w.length r37 (0 : Int32) r44.2) fun r52 => if r52 = (-101 : Int32) then (Option.bind (kO r44.2 (some w.length) 10) fun _ => Option.bind (f_X10_as w.length (0 : Int32) (5 : Int32) r44.2) fun r54 => if r54 = (-102 : Int32) then (Option.bind (kO r44.2 (some w.length) 10) fun _ => Option.bind (f_X10_lands w.length r37 (0 : Int32) r44.2) fun r56 => if r56 = (-101 : Int32) then (Option.bind (kO r44.2 (some w.length) 10) fun _ => Option.bind (f_X10_lands w.length (0 : Int32) (36 : Int32) r44.2) fun r58 => if r58 = (-101 : Int32) then (Option.bind (kO r44.2 (some w.length) 10) fun _ => Option.bind (f_X10_covers w.length r37 (0 : Int32) r44.2) fun r60 => if r60 = (-101 : Int32) then (Option.bind (kO r44.2 (some w.length) 10) fun _ => Option.bind (f_X10_covers w.length (0 : Int32) (-1 : Int32) r44.2) fun r62 => if r62 = (-101 : Int32) then (Option.bind (kO r44.2 (some w.length) 10) fun _ => Option.bind (f_X10_toss w.length r37 (0 : Int32) r44.2) fun r64 => if r64.1 = (-101 : Int32) then (Option.bind (kO r64.2 (some w.length) 10) fun _ => Option.bind (f_X10_toss w.length (0 : Int32) (36 : Int32) r64.2) fun r66 => if r66.1 = (-101 : Int32) then (Option.bind (kO r66.2 (some w.length) 10) fun _ => Option.bind (f_X10_wind w.length (2 : Int32) r66.2) fun r68 => if r68.1 = (-102 : Int32) then (Option.bind (kO r68.2 (some w.length) 10) fun _ => Option.bind (f_X10_wind w.length (-2 : Int32) r68.2) fun r70 => if r70.1 = (-102 : Int32) then (Option.bind (kO r70.2 (some w.length) 10) fun _ => Option.bind (f_X10_move w.length r36 (0 : Int32) r70.2) fun r72 => if r72.1 = (-101 : Int32) then (Option.bind (kO r72.2 (some w.length) 10) fun _ => Option.bind (f_X10_move w.length (0 : Int32) (36 : Int32) r72.2) fun r74 => if r74.1 = (-101 : Int32) then (Option.bind (kO r74.2 (some w.length) 10) fun _ => Option.bind (f_X10_train w.length r37 (0 : Int32) (0 : Int32) r74.2) fun r76 => if r76.1 = (-101 : Int32) then (Option.bind (kO r76.2 (some w.length) 10) fun _ => Option.bind (f_X10_train w.length (0 : Int32) (5 : Int32) (0 : Int32) r76.2) fun r78 => if r78.1 = (-102 : Int32) then (Option.bind (kO r78.2 (some w.length) 10) fun _ => Option.bind (f_X10_train w.length (0 : Int32) (0 : Int32) (-1 : Int32) r78.2) fun r80 => if r80.1 = (-102 : Int32) then (Option.bind (kO r80.2 (some w.length) 10) fun _ => Option.bind (f_X10_stir w.length (0 : Int32) r80.2) fun r82 => if r82.1 = (-102 : Int32) then (Option.bind (kO r82.2 (some w.length) 10) fun _ => Option.bind (f_X10_stir w.length (61 : Int32) r82.2) fun r84 => if r84.1 = (-102 : Int32) then (Option.bind (kO r84.2 (some w.length) 10) fun _ => Option.bind (f_X10_odds w.length r36 (0 : Int32) (0 : Int32) r84.2) fun r86 => if r86 = (-101 : Int32) then (Option.bind (kO r84.2 (some w.length) 10) fun _ => Option.bind (f_X10_odds w.length (0 : Int32) r37 (0 : Int32) r84.2) fun r88 => if r88 = (-101 : Int32) then (Option.bind (kO r84.2 (some w.length) 10) fun _ => Option.bind (f_X10_odds w.length (0 : Int32) (0 : Int32) (36 : Int32) r84.2) fun r90 => if r90 = (-101 : Int32) then (Option.bind (kO r84.2 (some w.length) 10) fun _ => Option.bind (f_X10_who w.length (36 : Int32) r84.2) fun r92 => if r92 = (-101 : Int32) then (Option.bind (kO r84.2 (some w.length) 10) fun _ => Option.bind (f_X10_who w.length (-1 : Int32) r84.2) fun r94 => if r94 = (-101 : Int32) then (Option.bind (kO r84.2 (some w.length) 10) fun _ => Option.bind (f_X10_seasons w.length (0 : Int32) (0 : Int32) (0 : Int32) r84.2) fun r96 => if r96 = (-102 : Int32) then (Option.bind (kO r84.2 (some w.length) 10) fun _ => Option.bind (f_X10_seasons w.length (61 : Int32) (0 : Int32) (0 : Int32) r84.2) fun r98 => if r98 = (-102 : Int32) then (Option.bind (kO r84.2 (some w.length) 10) fun _ => Option.bind (f_X10_seasons w.length (1 : Int32) (-1 : Int32) (0 : Int32) r84.2) fun r100 => if r100 = (-102 : Int32) then (Option.bind (kO r84.2 (some w.length) 10) fun _ => Option.bind (f_X10_seasons w.length (1 : Int32) (0 : Int32) (3 : Int32) r84.2) fun r102 => if r102 = (-102 : Int32) then (f_L_law_J704 X (1 : Int32) r84.2) else (f_L_law_J703 X r84.2)) else (f_L_law_J703 X r84.2)) else (f_L_law_J703 X r84.2)) else (f_L_law_J703 X r84.2)) else (f_L_law_J703 X r84.2)) else (f_L_law_J703 X r84.2)) else (f_L_law_J703 X r84.2)) else (f_L_law_J703 X r84.2)) else (f_L_law_J703 X r84.2)) else (f_L_law_J703 X r84.2)) else (f_L_law_J703 X r82.2)) else (f_L_law_J703 X r80.2)) else (f_L_law_J703 X r78.2)) else (f_L_law_J703 X r76.2)) else (f_L_law_J703 X r74.2)) else (f_L_law_J703 X r72.2)) else (f_L_law_J703 X r70.2)) else (f_L_law_J703 X r68.2)) else (f_L_law_J703 X r66.2)) else (f_L_law_J703 X r64.2)) else (f_L_law_J703 X r44.2)) else (f_L_law_J703 X r44.2)) else (f_L_law_J703 X r44.2)) else (f_L_law_J703 X r44.2)) else (f_L_law_J703 X r44.2)) else (f_L_law_J703 X r44.2)) else (f_L_law_J703 X r44.2)) else (f_L_law_J703 X r44.2)) else (f_L_law_J703 X r44.2)) else (f_L_law_J703 X r44.2)) else (f_L_law_J703 X r42.2)) else (f_L_law_J703 X r40.2))))) else (f_L_law_J74 X r28.2)) else (f_L_law_J74 X r26.2))
set_option maxRecDepth 100000 in
set_option maxHeartbeats 4000000 in
theorem ev_L_law {X : mXs} (w : mW) (res : Int32 × mW) (h : f_L_law X w = some res) : mEv X M_L_law 8 (some (vi res.1)) res.2 0 [some (vx 0), none, none, none, none, none, none, none] [] w := by
  unfold f_L_law at h
  replace h := Option.bind_eq_some_iff.mp h; obtain ⟨w19, hw19, h⟩ := h
  cases hw19
  refine ev_new (ci := 10) (fs := new_X10) tyX10 dL_law_0 rfl rfl inm_X10 tyX10_ok tw_43 tw_44 tw_25 rfl new_X10_ok ?_
  refine ev_dup (q := 4) dL_law_3 rfl rfl ?_
  replace h := Option.bind_eq_some_iff.mp h; obtain ⟨w20, hw20, h⟩ := h
  refine ev_invI (M1 := M_X10_init) (as := []) dL_law_4 rfl tw_45 cal_X10_init tw_46 rfl rfl (by decide) rfl rfl (Nat.le_of_ble_eq_true rfl) (met_X10_init w.length  (w ++ [.inl (10, new_X10)]) _ hw20) ?_
  refine ev_astore_n (q := 8) dL_law_7 rfl (by decide) ?_
  refine ev_bipush (q := 10) (v := (6 : Int32)) dL_law_8 rfl (by decide) ?_
  replace h := Option.bind_eq_some_iff.mp h; obtain ⟨w21, hw21, h⟩ := h
  cases hw21
  refine ev_newi (N := 6) dL_law_10 rfl tw_67 (by decide) (by decide) (by decide) ?_
  refine ev_astore_n (q := 13) dL_law_12 rfl (by decide) ?_
  refine ev_bipush (q := 15) (v := (39 : Int32)) dL_law_13 rfl (by decide) ?_
  replace h := Option.bind_eq_some_iff.mp h; obtain ⟨w22, hw22, h⟩ := h
  cases hw22
  refine ev_newi (N := 39) dL_law_15 rfl tw_67 (by decide) (by decide) (by decide) ?_
  refine ev_astore_n (q := 18) dL_law_17 rfl (by decide) ?_
  refine ev_bipush (q := 20) (v := (36 : Int32)) dL_law_18 rfl (by decide) ?_
  replace h := Option.bind_eq_some_iff.mp h; obtain ⟨w23, hw23, h⟩ := h
  cases hw23
  refine ev_newi (N := 36) dL_law_20 rfl tw_67 (by decide) (by decide) (by decide) ?_
  refine ev_astore (q := 24) dL_law_22 rfl (by decide) ?_
  refine ev_aload_n (q := 25) dL_law_24 rfl rfl ?_
  refine ev_iconst (q := 26) (v := (0 : Int32)) dL_law_25 rfl (by decide) ?_
  refine ev_aload_n (q := 27) dL_law_26 rfl rfl ?_
  refine ev_aload_n (q := 28) dL_law_27 rfl rfl ?_
  refine ev_aload (q := 30) dL_law_28 rfl rfl ?_
  replace h := Option.bind_eq_some_iff.mp h; obtain ⟨r24, hr24, h⟩ := h
  refine ev_invSX (M1 := M_L_portText) (as := [vx 0, vi ((0 : Int32)), vr ((some w20.length)), vr ((some (w20 ++ [(.inr (.inl (6, fun _ => 0)) : mC)]).length)), vr ((some ((w20 ++ [(.inr (.inl (6, fun _ => 0)) : mC)]) ++ [(.inr (.inl (39, fun _ => 0)) : mC)]).length))]) dL_law_30 rfl tw_662 cal_L_portText tw_663 (by decide) rfl rfl (Nat.le_of_ble_eq_true rfl) (met_L_portText X (0 : Int32) (some w20.length) (some (w20 ++ [(.inr (.inl (6, fun _ => 0)) : mC)]).length) (some ((w20 ++ [(.inr (.inl (6, fun _ => 0)) : mC)]) ++ [(.inr (.inl (39, fun _ => 0)) : mC)]).length) (((w20 ++ [(.inr (.inl (6, fun _ => 0)) : mC)]) ++ [(.inr (.inl (39, fun _ => 0)) : mC)]) ++ [(.inr (.inl (36, fun _ => 0)) : mC)]) _ hr24) ?_
  refine ev_istore (q := 35) dL_law_33 rfl (by decide) ?_
  refine ev_aload_n (q := 36) dL_law_35 rfl rfl ?_
  refine ev_aload (q := 38) dL_law_36 rfl rfl ?_
  refine ev_iload (q := 40) dL_law_38 rfl rfl ?_
  replace h := Option.bind_eq_some_iff.mp h; obtain ⟨r25, hr25, h⟩ := h
  refine ev_invS (M1 := M_L_spell) (as := [vr ((some w.length)), vr ((some ((w20 ++ [(.inr (.inl (6, fun _ => 0)) : mC)]) ++ [(.inr (.inl (39, fun _ => 0)) : mC)]).length)), vi r24.1]) dL_law_40 rfl tw_665 cal_L_spell tw_666 (by decide) rfl rfl (Nat.le_of_ble_eq_true rfl) (met_L_spell (some w.length) (some ((w20 ++ [(.inr (.inl (6, fun _ => 0)) : mC)]) ++ [(.inr (.inl (39, fun _ => 0)) : mC)]).length) r24.1 r24.2 _ hr25) ?_
  by_cases hc : r25.1 = 0
  · rw [if_pos hc] at h
    refine ev_if_eq_t (q := 74) dL_law_43 (by decide) hc ?_
    exact ev_weak _ (mLe_none (mLe_none (mLe_none (mLe_none (mLe_none (mLe_none (mLe_none (mLe_none mLe_nil)))))))) (e_L_law_J74 r25.2 _ h)
  · rw [if_neg hc] at h
    refine ev_if_eq_f (q := 46) (t0 := 74) dL_law_43 (by decide) rfl hc ?_
    refine ev_aload_n (q := 47) dL_law_46 rfl rfl ?_
    replace h := Option.bind_eq_some_iff.mp h; obtain ⟨q27, hq27, h⟩ := h
    obtain ⟨hxq27, fsq27, hkq27⟩ := kO_spec hq27
    cases hxq27
    replace h := Option.bind_eq_some_iff.mp h; obtain ⟨r26, hr26, h⟩ := h
    refine ev_invV (M1 := M_X10_fault) (as := []) (fs := fsq27) (ci := 10) dL_law_47 rfl tw_243 cal_X10_fault tw_244 tw_245 (by decide) rfl rfl (Nat.le_of_ble_eq_true rfl) hkq27 rfl (met_X10_fault w.length  r25.2 _ hr26) ?_
    refine ev_iload (q := 52) dL_law_50 rfl rfl ?_
    by_cases hc : r26.1 = r24.1
    · rw [if_pos hc] at h
      refine ev_icmp_ne_f (q := 55) (t0 := 74) dL_law_52 (by decide) rfl hc ?_
      refine ev_aload_n (q := 56) dL_law_55 rfl rfl ?_
      replace h := Option.bind_eq_some_iff.mp h; obtain ⟨q29, hq29, h⟩ := h
      obtain ⟨hxq29, fsq29, hkq29⟩ := kO_spec hq29
      cases hxq29
      replace h := Option.bind_eq_some_iff.mp h; obtain ⟨r28, hr28, h⟩ := h
      refine ev_invV (M1 := M_X10_port) (as := []) (fs := fsq29) (ci := 10) dL_law_56 rfl tw_383 cal_X10_port tw_384 tw_385 (by decide) rfl rfl (Nat.le_of_ble_eq_true rfl) hkq29 rfl (met_X10_port w.length  r26.2 _ hr28) ?_
      refine ev_aload_n (q := 60) dL_law_59 rfl rfl ?_
      refine ev_iconst (q := 61) (v := (0 : Int32)) dL_law_60 rfl (by decide) ?_
      replace h := Option.bind_eq_some_iff.mp h; obtain ⟨r30, hr30, h⟩ := h
      refine ev_aL dL_law_61 hr30 rfl ?_
      by_cases hc : r28.1 = r30
      · rw [if_pos hc] at h
        refine ev_icmp_ne_f (q := 65) (t0 := 74) dL_law_62 (by decide) rfl hc ?_
        refine ev_aload_n (q := 66) dL_law_65 rfl rfl ?_
        refine ev_aload_n (q := 67) dL_law_66 rfl rfl ?_
        refine ev_aload_n (q := 68) dL_law_67 rfl rfl ?_
        replace h := Option.bind_eq_some_iff.mp h; obtain ⟨r31, hr31, h⟩ := h
        refine ev_invS (M1 := M_L_stands) (as := [vr ((some w.length)), vr ((some w20.length)), vr ((some (w20 ++ [(.inr (.inl (6, fun _ => 0)) : mC)]).length))]) dL_law_68 rfl tw_677 cal_L_stands tw_678 (by decide) rfl rfl (Nat.le_of_ble_eq_true rfl) (met_L_stands (some w.length) (some w20.length) (some (w20 ++ [(.inr (.inl (6, fun _ => 0)) : mC)]).length) r28.2 _ hr31) ?_
        by_cases hc : r31.1 = 0
        · rw [if_pos hc] at h
          refine ev_if_ne_f (q := 74) (t0 := 76) dL_law_71 (by decide) rfl hc ?_
          exact ev_weak _ (mLe_none (mLe_none (mLe_none (mLe_none (mLe_none (mLe_none (mLe_none (mLe_none mLe_nil)))))))) (e_L_law_J74 r31.2 _ h)
        · rw [if_neg hc] at h
          refine ev_if_ne_t (q := 76) dL_law_71 (by decide) hc ?_
          refine ev_iconst (q := 77) (v := (0 : Int32)) dL_law_76 rfl (by decide) ?_
          refine ev_istore (q := 79) dL_law_77 rfl (by decide) ?_
          replace h := Option.bind_eq_some_iff.mp h; obtain ⟨e32, he32, h⟩ := h
          refine ev_weak _ (mLe_some (mLe_some (mLe_some (mLe_some (mLe_none (mLe_none (mLe_some (mLe_none mLe_nil)))))))) (e_L_law_L79 (fun z => e32 = z) (some w.length) (some w20.length) (some (w20 ++ [(.inr (.inl (6, fun _ => 0)) : mC)]).length) r31.2 (fun y105 hq => ?_) (fun y33 hq => ?_) mFuel (0 : Int32) _ he32 rfl)
          · subst hq
            dsimp only at h
            cases h
            exact ⟨rfl, rfl⟩
          · subst hq
            dsimp only at h
            refine ev_iconst (q := 160) (v := (0 : Int32)) dL_law_159 rfl (by decide) ?_
            refine ev_istore (q := 162) dL_law_160 rfl (by decide) ?_
            replace h := Option.bind_eq_some_iff.mp h; obtain ⟨e34, he34, h⟩ := h
            refine ev_weak _ (mLe_some (mLe_some (mLe_some (mLe_some (mLe_none (mLe_none (mLe_some (mLe_none mLe_nil)))))))) (e_L_law_L162 (fun z => e34 = z) (some w.length) (some w20.length) (some (w20 ++ [(.inr (.inl (6, fun _ => 0)) : mC)]).length) (fun y104 hq => ?_) (fun y35 hq => ?_) mFuel (0 : Int32) r31.2 _ he34 rfl)
            · subst hq
              dsimp only at h
              cases h
              exact ⟨rfl, rfl⟩
            · subst hq
              dsimp only at h
              refine ev_aload_n (q := 291) dL_law_290 rfl rfl ?_
              refine ev_iconst (q := 292) (v := (0 : Int32)) dL_law_291 rfl (by decide) ?_
              replace h := Option.bind_eq_some_iff.mp h; obtain ⟨r36, hr36, h⟩ := h
              refine ev_aL dL_law_292 hr36 rfl ?_
              refine ev_istore (q := 295) dL_law_293 rfl (by decide) ?_
              refine ev_aload_n (q := 296) dL_law_295 rfl rfl ?_
              refine ev_iconst (q := 297) (v := (1 : Int32)) dL_law_296 rfl (by decide) ?_
              replace h := Option.bind_eq_some_iff.mp h; obtain ⟨r37, hr37, h⟩ := h
              refine ev_aL dL_law_297 hr37 rfl ?_
              refine ev_istore (q := 300) dL_law_298 rfl (by decide) ?_
              refine ev_aload_n (q := 301) dL_law_300 rfl rfl ?_
              refine ev_aload_n (q := 302) dL_law_301 rfl rfl ?_
              refine ev_aload_n (q := 303) dL_law_302 rfl rfl ?_
              refine ev_bipush (q := 305) (v := (60 : Int32)) dL_law_303 rfl (by decide) ?_
              refine ev_iconst (q := 306) (v := (0 : Int32)) dL_law_305 rfl (by decide) ?_
              replace h := Option.bind_eq_some_iff.mp h; obtain ⟨r38, hr38, h⟩ := h
              refine ev_invS (M1 := M_L_seasons) (as := [vr ((some w.length)), vr ((some w20.length)), vr ((some (w20 ++ [(.inr (.inl (6, fun _ => 0)) : mC)]).length)), vi ((60 : Int32)), vi ((0 : Int32))]) dL_law_306 rfl tw_724 cal_L_seasons tw_725 (by decide) rfl rfl (Nat.le_of_ble_eq_true rfl) (met_L_seasons (some w.length) (some w20.length) (some (w20 ++ [(.inr (.inl (6, fun _ => 0)) : mC)]).length) (60 : Int32) (0 : Int32) y35 _ hr38) ?_
              by_cases hc : r38 = 0
              · rw [if_pos hc] at h
                refine ev_if_eq_t (q := 703) dL_law_309 (by decide) hc ?_
                exact ev_weak _ (mLe_none (mLe_none (mLe_none (mLe_none (mLe_none (mLe_none (mLe_none (mLe_none mLe_nil)))))))) (e_L_law_J703 y35 _ h)
              · rw [if_neg hc] at h
                refine ev_if_eq_f (q := 312) (t0 := 703) dL_law_309 (by decide) rfl hc ?_
                refine ev_aload_n (q := 313) dL_law_312 rfl rfl ?_
                refine ev_aload_n (q := 314) dL_law_313 rfl rfl ?_
                refine ev_aload_n (q := 315) dL_law_314 rfl rfl ?_
                refine ev_iconst (q := 316) (v := (1 : Int32)) dL_law_315 rfl (by decide) ?_
                refine ev_ldc (q := 318) (v := (2147483647 : Int32)) dL_law_316 rfl tw_736 ?_
                replace h := Option.bind_eq_some_iff.mp h; obtain ⟨r39, hr39, h⟩ := h
                refine ev_invS (M1 := M_L_seasons) (as := [vr ((some w.length)), vr ((some w20.length)), vr ((some (w20 ++ [(.inr (.inl (6, fun _ => 0)) : mC)]).length)), vi ((1 : Int32)), vi ((2147483647 : Int32))]) dL_law_318 rfl tw_724 cal_L_seasons tw_725 (by decide) rfl rfl (Nat.le_of_ble_eq_true rfl) (met_L_seasons (some w.length) (some w20.length) (some (w20 ++ [(.inr (.inl (6, fun _ => 0)) : mC)]).length) (1 : Int32) (2147483647 : Int32) y35 _ hr39) ?_
                by_cases hc : r39 = 0
                · rw [if_pos hc] at h
                  refine ev_if_eq_t (q := 703) dL_law_321 (by decide) hc ?_
                  exact ev_weak _ (mLe_none (mLe_none (mLe_none (mLe_none (mLe_none (mLe_none (mLe_none (mLe_none mLe_nil)))))))) (e_L_law_J703 y35 _ h)
                · rw [if_neg hc] at h
                  refine ev_if_eq_f (q := 324) (t0 := 703) dL_law_321 (by decide) rfl hc ?_
                  refine ev_aload_n (q := 325) dL_law_324 rfl rfl ?_
                  refine ev_iload (q := 327) dL_law_325 rfl rfl ?_
                  refine ev_iconst (q := 328) (v := (0 : Int32)) dL_law_327 rfl (by decide) ?_
                  replace h := Option.bind_eq_some_iff.mp h; obtain ⟨q41, hq41, h⟩ := h
                  obtain ⟨hxq41, fsq41, hkq41⟩ := kO_spec hq41
                  cases hxq41
                  replace h := Option.bind_eq_some_iff.mp h; obtain ⟨r40, hr40, h⟩ := h
                  refine ev_invV (M1 := M_X10_sleeper) (as := [vi r36, vi ((0 : Int32))]) (fs := fsq41) (ci := 10) dL_law_328 rfl tw_444 cal_X10_sleeper tw_445 tw_446 (by decide) rfl rfl (Nat.le_of_ble_eq_true rfl) hkq41 rfl (met_X10_sleeper w.length r36 (0 : Int32) y35 _ hr40) ?_
                  refine ev_bipush (q := 333) (v := (-101 : Int32)) dL_law_331 rfl (by decide) ?_
                  by_cases hc : r40.1 = (-101 : Int32)
                  · rw [if_pos hc] at h
                    refine ev_icmp_ne_f (q := 336) (t0 := 703) dL_law_333 (by decide) rfl hc ?_
                    refine ev_aload_n (q := 337) dL_law_336 rfl rfl ?_
                    refine ev_iconst (q := 338) (v := (-1 : Int32)) dL_law_337 rfl (by decide) ?_
                    refine ev_iconst (q := 339) (v := (0 : Int32)) dL_law_338 rfl (by decide) ?_
                    replace h := Option.bind_eq_some_iff.mp h; obtain ⟨q43, hq43, h⟩ := h
                    obtain ⟨hxq43, fsq43, hkq43⟩ := kO_spec hq43
                    cases hxq43
                    replace h := Option.bind_eq_some_iff.mp h; obtain ⟨r42, hr42, h⟩ := h
                    refine ev_invV (M1 := M_X10_sleeper) (as := [vi ((-1 : Int32)), vi ((0 : Int32))]) (fs := fsq43) (ci := 10) dL_law_339 rfl tw_444 cal_X10_sleeper tw_445 tw_446 (by decide) rfl rfl (Nat.le_of_ble_eq_true rfl) hkq43 rfl (met_X10_sleeper w.length (-1 : Int32) (0 : Int32) r40.2 _ hr42) ?_
                    refine ev_bipush (q := 344) (v := (-101 : Int32)) dL_law_342 rfl (by decide) ?_
                    by_cases hc : r42.1 = (-101 : Int32)
                    · rw [if_pos hc] at h
                      refine ev_icmp_ne_f (q := 347) (t0 := 703) dL_law_344 (by decide) rfl hc ?_
                      refine ev_aload_n (q := 348) dL_law_347 rfl rfl ?_
                      refine ev_iconst (q := 349) (v := (0 : Int32)) dL_law_348 rfl (by decide) ?_
                      refine ev_iconst (q := 350) (v := (5 : Int32)) dL_law_349 rfl (by decide) ?_
                      replace h := Option.bind_eq_some_iff.mp h; obtain ⟨q45, hq45, h⟩ := h
                      obtain ⟨hxq45, fsq45, hkq45⟩ := kO_spec hq45
                      cases hxq45
                      replace h := Option.bind_eq_some_iff.mp h; obtain ⟨r44, hr44, h⟩ := h
                      refine ev_invV (M1 := M_X10_sleeper) (as := [vi ((0 : Int32)), vi ((5 : Int32))]) (fs := fsq45) (ci := 10) dL_law_350 rfl tw_444 cal_X10_sleeper tw_445 tw_446 (by decide) rfl rfl (Nat.le_of_ble_eq_true rfl) hkq45 rfl (met_X10_sleeper w.length (0 : Int32) (5 : Int32) r42.2 _ hr44) ?_
                      refine ev_bipush (q := 355) (v := (-102 : Int32)) dL_law_353 rfl (by decide) ?_
                      by_cases hc : r44.1 = (-102 : Int32)
                      · rw [if_pos hc] at h
                        refine ev_icmp_ne_f (q := 358) (t0 := 703) dL_law_355 (by decide) rfl hc ?_
                        refine ev_aload_n (q := 359) dL_law_358 rfl rfl ?_
                        refine ev_iload (q := 361) dL_law_359 rfl rfl ?_
                        refine ev_iconst (q := 362) (v := (0 : Int32)) dL_law_361 rfl (by decide) ?_
                        replace h := Option.bind_eq_some_iff.mp h; obtain ⟨q47, hq47, h⟩ := h
                        obtain ⟨hxq47, fsq47, hkq47⟩ := kO_spec hq47
                        cases hxq47
                        replace h := Option.bind_eq_some_iff.mp h; obtain ⟨r46, hr46, h⟩ := h
                        refine ev_invV (M1 := M_X10_tosser) (as := [vi r37, vi ((0 : Int32))]) (fs := fsq47) (ci := 10) dL_law_362 rfl tw_502 cal_X10_tosser tw_503 tw_504 (by decide) rfl rfl (Nat.le_of_ble_eq_true rfl) hkq47 rfl (met_X10_tosser w.length r37 (0 : Int32) r44.2 _ hr46) ?_
                        refine ev_bipush (q := 367) (v := (-101 : Int32)) dL_law_365 rfl (by decide) ?_
                        by_cases hc : r46 = (-101 : Int32)
                        · rw [if_pos hc] at h
                          refine ev_icmp_ne_f (q := 370) (t0 := 703) dL_law_367 (by decide) rfl hc ?_
                          refine ev_aload_n (q := 371) dL_law_370 rfl rfl ?_
                          refine ev_iconst (q := 372) (v := (-1 : Int32)) dL_law_371 rfl (by decide) ?_
                          refine ev_iconst (q := 373) (v := (0 : Int32)) dL_law_372 rfl (by decide) ?_
                          replace h := Option.bind_eq_some_iff.mp h; obtain ⟨q49, hq49, h⟩ := h
                          obtain ⟨hxq49, fsq49, hkq49⟩ := kO_spec hq49
                          cases hxq49
                          replace h := Option.bind_eq_some_iff.mp h; obtain ⟨r48, hr48, h⟩ := h
                          refine ev_invV (M1 := M_X10_tosser) (as := [vi ((-1 : Int32)), vi ((0 : Int32))]) (fs := fsq49) (ci := 10) dL_law_373 rfl tw_502 cal_X10_tosser tw_503 tw_504 (by decide) rfl rfl (Nat.le_of_ble_eq_true rfl) hkq49 rfl (met_X10_tosser w.length (-1 : Int32) (0 : Int32) r44.2 _ hr48) ?_
                          refine ev_bipush (q := 378) (v := (-101 : Int32)) dL_law_376 rfl (by decide) ?_
                          by_cases hc : r48 = (-101 : Int32)
                          · rw [if_pos hc] at h
                            refine ev_icmp_ne_f (q := 381) (t0 := 703) dL_law_378 (by decide) rfl hc ?_
                            refine ev_aload_n (q := 382) dL_law_381 rfl rfl ?_
                            refine ev_iconst (q := 383) (v := (0 : Int32)) dL_law_382 rfl (by decide) ?_
                            refine ev_bipush (q := 385) (v := (9 : Int32)) dL_law_383 rfl (by decide) ?_
                            replace h := Option.bind_eq_some_iff.mp h; obtain ⟨q51, hq51, h⟩ := h
                            obtain ⟨hxq51, fsq51, hkq51⟩ := kO_spec hq51
                            cases hxq51
                            replace h := Option.bind_eq_some_iff.mp h; obtain ⟨r50, hr50, h⟩ := h
                            refine ev_invV (M1 := M_X10_tosser) (as := [vi ((0 : Int32)), vi ((9 : Int32))]) (fs := fsq51) (ci := 10) dL_law_385 rfl tw_502 cal_X10_tosser tw_503 tw_504 (by decide) rfl rfl (Nat.le_of_ble_eq_true rfl) hkq51 rfl (met_X10_tosser w.length (0 : Int32) (9 : Int32) r44.2 _ hr50) ?_
                            refine ev_bipush (q := 390) (v := (-102 : Int32)) dL_law_388 rfl (by decide) ?_
                            by_cases hc : r50 = (-102 : Int32)
                            · rw [if_pos hc] at h
                              refine ev_icmp_ne_f (q := 393) (t0 := 703) dL_law_390 (by decide) rfl hc ?_
                              refine ev_aload_n (q := 394) dL_law_393 rfl rfl ?_
                              refine ev_iload (q := 396) dL_law_394 rfl rfl ?_
                              refine ev_iconst (q := 397) (v := (0 : Int32)) dL_law_396 rfl (by decide) ?_
                              replace h := Option.bind_eq_some_iff.mp h; obtain ⟨q53, hq53, h⟩ := h
                              obtain ⟨hxq53, fsq53, hkq53⟩ := kO_spec hq53
                              cases hxq53
                              replace h := Option.bind_eq_some_iff.mp h; obtain ⟨r52, hr52, h⟩ := h
                              refine ev_invV (M1 := M_X10_as) (as := [vi r37, vi ((0 : Int32))]) (fs := fsq53) (ci := 10) dL_law_397 rfl tw_581 cal_X10_as tw_582 tw_583 (by decide) rfl rfl (Nat.le_of_ble_eq_true rfl) hkq53 rfl (met_X10_as w.length r37 (0 : Int32) r44.2 _ hr52) ?_
                              refine ev_bipush (q := 402) (v := (-101 : Int32)) dL_law_400 rfl (by decide) ?_
                              by_cases hc : r52 = (-101 : Int32)
                              · rw [if_pos hc] at h
                                refine ev_icmp_ne_f (q := 405) (t0 := 703) dL_law_402 (by decide) rfl hc ?_
                                refine ev_aload_n (q := 406) dL_law_405 rfl rfl ?_
                                refine ev_iconst (q := 407) (v := (0 : Int32)) dL_law_406 rfl (by decide) ?_
                                refine ev_iconst (q := 408) (v := (5 : Int32)) dL_law_407 rfl (by decide) ?_
                                replace h := Option.bind_eq_some_iff.mp h; obtain ⟨q55, hq55, h⟩ := h
                                obtain ⟨hxq55, fsq55, hkq55⟩ := kO_spec hq55
                                cases hxq55
                                replace h := Option.bind_eq_some_iff.mp h; obtain ⟨r54, hr54, h⟩ := h
                                refine ev_invV (M1 := M_X10_as) (as := [vi ((0 : Int32)), vi ((5 : Int32))]) (fs := fsq55) (ci := 10) dL_law_408 rfl tw_581 cal_X10_as tw_582 tw_583 (by decide) rfl rfl (Nat.le_of_ble_eq_true rfl) hkq55 rfl (met_X10_as w.length (0 : Int32) (5 : Int32) r44.2 _ hr54) ?_
                                refine ev_bipush (q := 413) (v := (-102 : Int32)) dL_law_411 rfl (by decide) ?_
                                by_cases hc : r54 = (-102 : Int32)
                                · rw [if_pos hc] at h
                                  refine ev_icmp_ne_f (q := 416) (t0 := 703) dL_law_413 (by decide) rfl hc ?_
                                  refine ev_aload_n (q := 417) dL_law_416 rfl rfl ?_
                                  refine ev_iload (q := 419) dL_law_417 rfl rfl ?_
                                  refine ev_iconst (q := 420) (v := (0 : Int32)) dL_law_419 rfl (by decide) ?_
                                  replace h := Option.bind_eq_some_iff.mp h; obtain ⟨q57, hq57, h⟩ := h
                                  obtain ⟨hxq57, fsq57, hkq57⟩ := kO_spec hq57
                                  cases hxq57
                                  replace h := Option.bind_eq_some_iff.mp h; obtain ⟨r56, hr56, h⟩ := h
                                  refine ev_invV (M1 := M_X10_lands) (as := [vi r37, vi ((0 : Int32))]) (fs := fsq57) (ci := 10) dL_law_420 rfl tw_588 cal_X10_lands tw_589 tw_590 (by decide) rfl rfl (Nat.le_of_ble_eq_true rfl) hkq57 rfl (met_X10_lands w.length r37 (0 : Int32) r44.2 _ hr56) ?_
                                  refine ev_bipush (q := 425) (v := (-101 : Int32)) dL_law_423 rfl (by decide) ?_
                                  by_cases hc : r56 = (-101 : Int32)
                                  · rw [if_pos hc] at h
                                    refine ev_icmp_ne_f (q := 428) (t0 := 703) dL_law_425 (by decide) rfl hc ?_
                                    refine ev_aload_n (q := 429) dL_law_428 rfl rfl ?_
                                    refine ev_iconst (q := 430) (v := (0 : Int32)) dL_law_429 rfl (by decide) ?_
                                    refine ev_bipush (q := 432) (v := (36 : Int32)) dL_law_430 rfl (by decide) ?_
                                    replace h := Option.bind_eq_some_iff.mp h; obtain ⟨q59, hq59, h⟩ := h
                                    obtain ⟨hxq59, fsq59, hkq59⟩ := kO_spec hq59
                                    cases hxq59
                                    replace h := Option.bind_eq_some_iff.mp h; obtain ⟨r58, hr58, h⟩ := h
                                    refine ev_invV (M1 := M_X10_lands) (as := [vi ((0 : Int32)), vi ((36 : Int32))]) (fs := fsq59) (ci := 10) dL_law_432 rfl tw_588 cal_X10_lands tw_589 tw_590 (by decide) rfl rfl (Nat.le_of_ble_eq_true rfl) hkq59 rfl (met_X10_lands w.length (0 : Int32) (36 : Int32) r44.2 _ hr58) ?_
                                    refine ev_bipush (q := 437) (v := (-101 : Int32)) dL_law_435 rfl (by decide) ?_
                                    by_cases hc : r58 = (-101 : Int32)
                                    · rw [if_pos hc] at h
                                      refine ev_icmp_ne_f (q := 440) (t0 := 703) dL_law_437 (by decide) rfl hc ?_
                                      refine ev_aload_n (q := 441) dL_law_440 rfl rfl ?_
                                      refine ev_iload (q := 443) dL_law_441 rfl rfl ?_
                                      refine ev_iconst (q := 444) (v := (0 : Int32)) dL_law_443 rfl (by decide) ?_
                                      replace h := Option.bind_eq_some_iff.mp h; obtain ⟨q61, hq61, h⟩ := h
                                      obtain ⟨hxq61, fsq61, hkq61⟩ := kO_spec hq61
                                      cases hxq61
                                      replace h := Option.bind_eq_some_iff.mp h; obtain ⟨r60, hr60, h⟩ := h
                                      refine ev_invV (M1 := M_X10_covers) (as := [vi r37, vi ((0 : Int32))]) (fs := fsq61) (ci := 10) dL_law_444 rfl tw_604 cal_X10_covers tw_605 tw_606 (by decide) rfl rfl (Nat.le_of_ble_eq_true rfl) hkq61 rfl (met_X10_covers w.length r37 (0 : Int32) r44.2 _ hr60) ?_
                                      refine ev_bipush (q := 449) (v := (-101 : Int32)) dL_law_447 rfl (by decide) ?_
                                      by_cases hc : r60 = (-101 : Int32)
                                      · rw [if_pos hc] at h
                                        refine ev_icmp_ne_f (q := 452) (t0 := 703) dL_law_449 (by decide) rfl hc ?_
                                        refine ev_aload_n (q := 453) dL_law_452 rfl rfl ?_
                                        refine ev_iconst (q := 454) (v := (0 : Int32)) dL_law_453 rfl (by decide) ?_
                                        refine ev_iconst (q := 455) (v := (-1 : Int32)) dL_law_454 rfl (by decide) ?_
                                        replace h := Option.bind_eq_some_iff.mp h; obtain ⟨q63, hq63, h⟩ := h
                                        obtain ⟨hxq63, fsq63, hkq63⟩ := kO_spec hq63
                                        cases hxq63
                                        replace h := Option.bind_eq_some_iff.mp h; obtain ⟨r62, hr62, h⟩ := h
                                        refine ev_invV (M1 := M_X10_covers) (as := [vi ((0 : Int32)), vi ((-1 : Int32))]) (fs := fsq63) (ci := 10) dL_law_455 rfl tw_604 cal_X10_covers tw_605 tw_606 (by decide) rfl rfl (Nat.le_of_ble_eq_true rfl) hkq63 rfl (met_X10_covers w.length (0 : Int32) (-1 : Int32) r44.2 _ hr62) ?_
                                        refine ev_bipush (q := 460) (v := (-101 : Int32)) dL_law_458 rfl (by decide) ?_
                                        by_cases hc : r62 = (-101 : Int32)
                                        · rw [if_pos hc] at h
                                          refine ev_icmp_ne_f (q := 463) (t0 := 703) dL_law_460 (by decide) rfl hc ?_
                                          refine ev_aload_n (q := 464) dL_law_463 rfl rfl ?_
                                          refine ev_iload (q := 466) dL_law_464 rfl rfl ?_
                                          refine ev_iconst (q := 467) (v := (0 : Int32)) dL_law_466 rfl (by decide) ?_
                                          replace h := Option.bind_eq_some_iff.mp h; obtain ⟨q65, hq65, h⟩ := h
                                          obtain ⟨hxq65, fsq65, hkq65⟩ := kO_spec hq65
                                          cases hxq65
                                          replace h := Option.bind_eq_some_iff.mp h; obtain ⟨r64, hr64, h⟩ := h
                                          refine ev_invV (M1 := M_X10_toss) (as := [vi r37, vi ((0 : Int32))]) (fs := fsq65) (ci := 10) dL_law_467 rfl tw_608 cal_X10_toss tw_609 tw_610 (by decide) rfl rfl (Nat.le_of_ble_eq_true rfl) hkq65 rfl (met_X10_toss w.length r37 (0 : Int32) r44.2 _ hr64) ?_
                                          refine ev_bipush (q := 472) (v := (-101 : Int32)) dL_law_470 rfl (by decide) ?_
                                          by_cases hc : r64.1 = (-101 : Int32)
                                          · rw [if_pos hc] at h
                                            refine ev_icmp_ne_f (q := 475) (t0 := 703) dL_law_472 (by decide) rfl hc ?_
                                            refine ev_aload_n (q := 476) dL_law_475 rfl rfl ?_
                                            refine ev_iconst (q := 477) (v := (0 : Int32)) dL_law_476 rfl (by decide) ?_
                                            refine ev_bipush (q := 479) (v := (36 : Int32)) dL_law_477 rfl (by decide) ?_
                                            replace h := Option.bind_eq_some_iff.mp h; obtain ⟨q67, hq67, h⟩ := h
                                            obtain ⟨hxq67, fsq67, hkq67⟩ := kO_spec hq67
                                            cases hxq67
                                            replace h := Option.bind_eq_some_iff.mp h; obtain ⟨r66, hr66, h⟩ := h
                                            refine ev_invV (M1 := M_X10_toss) (as := [vi ((0 : Int32)), vi ((36 : Int32))]) (fs := fsq67) (ci := 10) dL_law_479 rfl tw_608 cal_X10_toss tw_609 tw_610 (by decide) rfl rfl (Nat.le_of_ble_eq_true rfl) hkq67 rfl (met_X10_toss w.length (0 : Int32) (36 : Int32) r64.2 _ hr66) ?_
                                            refine ev_bipush (q := 484) (v := (-101 : Int32)) dL_law_482 rfl (by decide) ?_
                                            by_cases hc : r66.1 = (-101 : Int32)
                                            · rw [if_pos hc] at h
                                              refine ev_icmp_ne_f (q := 487) (t0 := 703) dL_law_484 (by decide) rfl hc ?_
                                              refine ev_aload_n (q := 488) dL_law_487 rfl rfl ?_
                                              refine ev_iconst (q := 489) (v := (2 : Int32)) dL_law_488 rfl (by decide) ?_
                                              replace h := Option.bind_eq_some_iff.mp h; obtain ⟨q69, hq69, h⟩ := h
                                              obtain ⟨hxq69, fsq69, hkq69⟩ := kO_spec hq69
                                              cases hxq69
                                              replace h := Option.bind_eq_some_iff.mp h; obtain ⟨r68, hr68, h⟩ := h
                                              refine ev_invV (M1 := M_X10_wind) (as := [vi ((2 : Int32))]) (fs := fsq69) (ci := 10) dL_law_489 rfl tw_612 cal_X10_wind tw_613 tw_614 (by decide) rfl rfl (Nat.le_of_ble_eq_true rfl) hkq69 rfl (met_X10_wind w.length (2 : Int32) r66.2 _ hr68) ?_
                                              refine ev_bipush (q := 494) (v := (-102 : Int32)) dL_law_492 rfl (by decide) ?_
                                              by_cases hc : r68.1 = (-102 : Int32)
                                              · rw [if_pos hc] at h
                                                refine ev_icmp_ne_f (q := 497) (t0 := 703) dL_law_494 (by decide) rfl hc ?_
                                                refine ev_aload_n (q := 498) dL_law_497 rfl rfl ?_
                                                refine ev_bipush (q := 500) (v := (-2 : Int32)) dL_law_498 rfl (by decide) ?_
                                                replace h := Option.bind_eq_some_iff.mp h; obtain ⟨q71, hq71, h⟩ := h
                                                obtain ⟨hxq71, fsq71, hkq71⟩ := kO_spec hq71
                                                cases hxq71
                                                replace h := Option.bind_eq_some_iff.mp h; obtain ⟨r70, hr70, h⟩ := h
                                                refine ev_invV (M1 := M_X10_wind) (as := [vi ((-2 : Int32))]) (fs := fsq71) (ci := 10) dL_law_500 rfl tw_612 cal_X10_wind tw_613 tw_614 (by decide) rfl rfl (Nat.le_of_ble_eq_true rfl) hkq71 rfl (met_X10_wind w.length (-2 : Int32) r68.2 _ hr70) ?_
                                                refine ev_bipush (q := 505) (v := (-102 : Int32)) dL_law_503 rfl (by decide) ?_
                                                by_cases hc : r70.1 = (-102 : Int32)
                                                · rw [if_pos hc] at h
                                                  refine ev_icmp_ne_f (q := 508) (t0 := 703) dL_law_505 (by decide) rfl hc ?_
                                                  refine ev_aload_n (q := 509) dL_law_508 rfl rfl ?_
                                                  refine ev_iload (q := 511) dL_law_509 rfl rfl ?_
                                                  refine ev_iconst (q := 512) (v := (0 : Int32)) dL_law_511 rfl (by decide) ?_
                                                  replace h := Option.bind_eq_some_iff.mp h; obtain ⟨q73, hq73, h⟩ := h
                                                  obtain ⟨hxq73, fsq73, hkq73⟩ := kO_spec hq73
                                                  cases hxq73
                                                  replace h := Option.bind_eq_some_iff.mp h; obtain ⟨r72, hr72, h⟩ := h
                                                  refine ev_invV (M1 := M_X10_move) (as := [vi r36, vi ((0 : Int32))]) (fs := fsq73) (ci := 10) dL_law_512 rfl tw_616 cal_X10_move tw_617 tw_618 (by decide) rfl rfl (Nat.le_of_ble_eq_true rfl) hkq73 rfl (met_X10_move w.length r36 (0 : Int32) r70.2 _ hr72) ?_
                                                  refine ev_bipush (q := 517) (v := (-101 : Int32)) dL_law_515 rfl (by decide) ?_
                                                  by_cases hc : r72.1 = (-101 : Int32)
                                                  · rw [if_pos hc] at h
                                                    refine ev_icmp_ne_f (q := 520) (t0 := 703) dL_law_517 (by decide) rfl hc ?_
                                                    refine ev_aload_n (q := 521) dL_law_520 rfl rfl ?_
                                                    refine ev_iconst (q := 522) (v := (0 : Int32)) dL_law_521 rfl (by decide) ?_
                                                    refine ev_bipush (q := 524) (v := (36 : Int32)) dL_law_522 rfl (by decide) ?_
                                                    replace h := Option.bind_eq_some_iff.mp h; obtain ⟨q75, hq75, h⟩ := h
                                                    obtain ⟨hxq75, fsq75, hkq75⟩ := kO_spec hq75
                                                    cases hxq75
                                                    replace h := Option.bind_eq_some_iff.mp h; obtain ⟨r74, hr74, h⟩ := h
                                                    refine ev_invV (M1 := M_X10_move) (as := [vi ((0 : Int32)), vi ((36 : Int32))]) (fs := fsq75) (ci := 10) dL_law_524 rfl tw_616 cal_X10_move tw_617 tw_618 (by decide) rfl rfl (Nat.le_of_ble_eq_true rfl) hkq75 rfl (met_X10_move w.length (0 : Int32) (36 : Int32) r72.2 _ hr74) ?_
                                                    refine ev_bipush (q := 529) (v := (-101 : Int32)) dL_law_527 rfl (by decide) ?_
                                                    by_cases hc : r74.1 = (-101 : Int32)
                                                    · rw [if_pos hc] at h
                                                      refine ev_icmp_ne_f (q := 532) (t0 := 703) dL_law_529 (by decide) rfl hc ?_
                                                      refine ev_aload_n (q := 533) dL_law_532 rfl rfl ?_
                                                      refine ev_iload (q := 535) dL_law_533 rfl rfl ?_
                                                      refine ev_iconst (q := 536) (v := (0 : Int32)) dL_law_535 rfl (by decide) ?_
                                                      refine ev_iconst (q := 537) (v := (0 : Int32)) dL_law_536 rfl (by decide) ?_
                                                      replace h := Option.bind_eq_some_iff.mp h; obtain ⟨q77, hq77, h⟩ := h
                                                      obtain ⟨hxq77, fsq77, hkq77⟩ := kO_spec hq77
                                                      cases hxq77
                                                      replace h := Option.bind_eq_some_iff.mp h; obtain ⟨r76, hr76, h⟩ := h
                                                      refine ev_invV (M1 := M_X10_train) (as := [vi r37, vi ((0 : Int32)), vi ((0 : Int32))]) (fs := fsq77) (ci := 10) dL_law_537 rfl tw_620 cal_X10_train tw_621 tw_622 (by decide) rfl rfl (Nat.le_of_ble_eq_true rfl) hkq77 rfl (met_X10_train w.length r37 (0 : Int32) (0 : Int32) r74.2 _ hr76) ?_
                                                      refine ev_bipush (q := 542) (v := (-101 : Int32)) dL_law_540 rfl (by decide) ?_
                                                      by_cases hc : r76.1 = (-101 : Int32)
                                                      · rw [if_pos hc] at h
                                                        refine ev_icmp_ne_f (q := 545) (t0 := 703) dL_law_542 (by decide) rfl hc ?_
                                                        refine ev_aload_n (q := 546) dL_law_545 rfl rfl ?_
                                                        refine ev_iconst (q := 547) (v := (0 : Int32)) dL_law_546 rfl (by decide) ?_
                                                        refine ev_iconst (q := 548) (v := (5 : Int32)) dL_law_547 rfl (by decide) ?_
                                                        refine ev_iconst (q := 549) (v := (0 : Int32)) dL_law_548 rfl (by decide) ?_
                                                        replace h := Option.bind_eq_some_iff.mp h; obtain ⟨q79, hq79, h⟩ := h
                                                        obtain ⟨hxq79, fsq79, hkq79⟩ := kO_spec hq79
                                                        cases hxq79
                                                        replace h := Option.bind_eq_some_iff.mp h; obtain ⟨r78, hr78, h⟩ := h
                                                        refine ev_invV (M1 := M_X10_train) (as := [vi ((0 : Int32)), vi ((5 : Int32)), vi ((0 : Int32))]) (fs := fsq79) (ci := 10) dL_law_549 rfl tw_620 cal_X10_train tw_621 tw_622 (by decide) rfl rfl (Nat.le_of_ble_eq_true rfl) hkq79 rfl (met_X10_train w.length (0 : Int32) (5 : Int32) (0 : Int32) r76.2 _ hr78) ?_
                                                        refine ev_bipush (q := 554) (v := (-102 : Int32)) dL_law_552 rfl (by decide) ?_
                                                        by_cases hc : r78.1 = (-102 : Int32)
                                                        · rw [if_pos hc] at h
                                                          refine ev_icmp_ne_f (q := 557) (t0 := 703) dL_law_554 (by decide) rfl hc ?_
                                                          refine ev_aload_n (q := 558) dL_law_557 rfl rfl ?_
                                                          refine ev_iconst (q := 559) (v := (0 : Int32)) dL_law_558 rfl (by decide) ?_
                                                          refine ev_iconst (q := 560) (v := (0 : Int32)) dL_law_559 rfl (by decide) ?_
                                                          refine ev_iconst (q := 561) (v := (-1 : Int32)) dL_law_560 rfl (by decide) ?_
                                                          replace h := Option.bind_eq_some_iff.mp h; obtain ⟨q81, hq81, h⟩ := h
                                                          obtain ⟨hxq81, fsq81, hkq81⟩ := kO_spec hq81
                                                          cases hxq81
                                                          replace h := Option.bind_eq_some_iff.mp h; obtain ⟨r80, hr80, h⟩ := h
                                                          refine ev_invV (M1 := M_X10_train) (as := [vi ((0 : Int32)), vi ((0 : Int32)), vi ((-1 : Int32))]) (fs := fsq81) (ci := 10) dL_law_561 rfl tw_620 cal_X10_train tw_621 tw_622 (by decide) rfl rfl (Nat.le_of_ble_eq_true rfl) hkq81 rfl (met_X10_train w.length (0 : Int32) (0 : Int32) (-1 : Int32) r78.2 _ hr80) ?_
                                                          refine ev_bipush (q := 566) (v := (-102 : Int32)) dL_law_564 rfl (by decide) ?_
                                                          by_cases hc : r80.1 = (-102 : Int32)
                                                          · rw [if_pos hc] at h
                                                            refine ev_icmp_ne_f (q := 569) (t0 := 703) dL_law_566 (by decide) rfl hc ?_
                                                            refine ev_aload_n (q := 570) dL_law_569 rfl rfl ?_
                                                            refine ev_iconst (q := 571) (v := (0 : Int32)) dL_law_570 rfl (by decide) ?_
                                                            replace h := Option.bind_eq_some_iff.mp h; obtain ⟨q83, hq83, h⟩ := h
                                                            obtain ⟨hxq83, fsq83, hkq83⟩ := kO_spec hq83
                                                            cases hxq83
                                                            replace h := Option.bind_eq_some_iff.mp h; obtain ⟨r82, hr82, h⟩ := h
                                                            refine ev_invV (M1 := M_X10_stir) (as := [vi ((0 : Int32))]) (fs := fsq83) (ci := 10) dL_law_571 rfl tw_625 cal_X10_stir tw_626 tw_627 (by decide) rfl rfl (Nat.le_of_ble_eq_true rfl) hkq83 rfl (met_X10_stir w.length (0 : Int32) r80.2 _ hr82) ?_
                                                            refine ev_bipush (q := 576) (v := (-102 : Int32)) dL_law_574 rfl (by decide) ?_
                                                            by_cases hc : r82.1 = (-102 : Int32)
                                                            · rw [if_pos hc] at h
                                                              refine ev_icmp_ne_f (q := 579) (t0 := 703) dL_law_576 (by decide) rfl hc ?_
                                                              refine ev_aload_n (q := 580) dL_law_579 rfl rfl ?_
                                                              refine ev_bipush (q := 582) (v := (61 : Int32)) dL_law_580 rfl (by decide) ?_
                                                              replace h := Option.bind_eq_some_iff.mp h; obtain ⟨q85, hq85, h⟩ := h
                                                              obtain ⟨hxq85, fsq85, hkq85⟩ := kO_spec hq85
                                                              cases hxq85
                                                              replace h := Option.bind_eq_some_iff.mp h; obtain ⟨r84, hr84, h⟩ := h
                                                              refine ev_invV (M1 := M_X10_stir) (as := [vi ((61 : Int32))]) (fs := fsq85) (ci := 10) dL_law_582 rfl tw_625 cal_X10_stir tw_626 tw_627 (by decide) rfl rfl (Nat.le_of_ble_eq_true rfl) hkq85 rfl (met_X10_stir w.length (61 : Int32) r82.2 _ hr84) ?_
                                                              refine ev_bipush (q := 587) (v := (-102 : Int32)) dL_law_585 rfl (by decide) ?_
                                                              by_cases hc : r84.1 = (-102 : Int32)
                                                              · rw [if_pos hc] at h
                                                                refine ev_icmp_ne_f (q := 590) (t0 := 703) dL_law_587 (by decide) rfl hc ?_
                                                                refine ev_aload_n (q := 591) dL_law_590 rfl rfl ?_
                                                                refine ev_iload (q := 593) dL_law_591 rfl rfl ?_
                                                                refine ev_iconst (q := 594) (v := (0 : Int32)) dL_law_593 rfl (by decide) ?_
                                                                refine ev_iconst (q := 595) (v := (0 : Int32)) dL_law_594 rfl (by decide) ?_
                                                                replace h := Option.bind_eq_some_iff.mp h; obtain ⟨q87, hq87, h⟩ := h
                                                                obtain ⟨hxq87, fsq87, hkq87⟩ := kO_spec hq87
                                                                cases hxq87
                                                                replace h := Option.bind_eq_some_iff.mp h; obtain ⟨r86, hr86, h⟩ := h
                                                                refine ev_invV (M1 := M_X10_odds) (as := [vi r36, vi ((0 : Int32)), vi ((0 : Int32))]) (fs := fsq87) (ci := 10) dL_law_595 rfl tw_629 cal_X10_odds tw_630 tw_631 (by decide) rfl rfl (Nat.le_of_ble_eq_true rfl) hkq87 rfl (met_X10_odds w.length r36 (0 : Int32) (0 : Int32) r84.2 _ hr86) ?_
                                                                refine ev_bipush (q := 600) (v := (-101 : Int32)) dL_law_598 rfl (by decide) ?_
                                                                by_cases hc : r86 = (-101 : Int32)
                                                                · rw [if_pos hc] at h
                                                                  refine ev_icmp_ne_f (q := 603) (t0 := 703) dL_law_600 (by decide) rfl hc ?_
                                                                  refine ev_aload_n (q := 604) dL_law_603 rfl rfl ?_
                                                                  refine ev_iconst (q := 605) (v := (0 : Int32)) dL_law_604 rfl (by decide) ?_
                                                                  refine ev_iload (q := 607) dL_law_605 rfl rfl ?_
                                                                  refine ev_iconst (q := 608) (v := (0 : Int32)) dL_law_607 rfl (by decide) ?_
                                                                  replace h := Option.bind_eq_some_iff.mp h; obtain ⟨q89, hq89, h⟩ := h
                                                                  obtain ⟨hxq89, fsq89, hkq89⟩ := kO_spec hq89
                                                                  cases hxq89
                                                                  replace h := Option.bind_eq_some_iff.mp h; obtain ⟨r88, hr88, h⟩ := h
                                                                  refine ev_invV (M1 := M_X10_odds) (as := [vi ((0 : Int32)), vi r37, vi ((0 : Int32))]) (fs := fsq89) (ci := 10) dL_law_608 rfl tw_629 cal_X10_odds tw_630 tw_631 (by decide) rfl rfl (Nat.le_of_ble_eq_true rfl) hkq89 rfl (met_X10_odds w.length (0 : Int32) r37 (0 : Int32) r84.2 _ hr88) ?_
                                                                  refine ev_bipush (q := 613) (v := (-101 : Int32)) dL_law_611 rfl (by decide) ?_
                                                                  by_cases hc : r88 = (-101 : Int32)
                                                                  · rw [if_pos hc] at h
                                                                    refine ev_icmp_ne_f (q := 616) (t0 := 703) dL_law_613 (by decide) rfl hc ?_
                                                                    refine ev_aload_n (q := 617) dL_law_616 rfl rfl ?_
                                                                    refine ev_iconst (q := 618) (v := (0 : Int32)) dL_law_617 rfl (by decide) ?_
                                                                    refine ev_iconst (q := 619) (v := (0 : Int32)) dL_law_618 rfl (by decide) ?_
                                                                    refine ev_bipush (q := 621) (v := (36 : Int32)) dL_law_619 rfl (by decide) ?_
                                                                    replace h := Option.bind_eq_some_iff.mp h; obtain ⟨q91, hq91, h⟩ := h
                                                                    obtain ⟨hxq91, fsq91, hkq91⟩ := kO_spec hq91
                                                                    cases hxq91
                                                                    replace h := Option.bind_eq_some_iff.mp h; obtain ⟨r90, hr90, h⟩ := h
                                                                    refine ev_invV (M1 := M_X10_odds) (as := [vi ((0 : Int32)), vi ((0 : Int32)), vi ((36 : Int32))]) (fs := fsq91) (ci := 10) dL_law_621 rfl tw_629 cal_X10_odds tw_630 tw_631 (by decide) rfl rfl (Nat.le_of_ble_eq_true rfl) hkq91 rfl (met_X10_odds w.length (0 : Int32) (0 : Int32) (36 : Int32) r84.2 _ hr90) ?_
                                                                    refine ev_bipush (q := 626) (v := (-101 : Int32)) dL_law_624 rfl (by decide) ?_
                                                                    by_cases hc : r90 = (-101 : Int32)
                                                                    · rw [if_pos hc] at h
                                                                      refine ev_icmp_ne_f (q := 629) (t0 := 703) dL_law_626 (by decide) rfl hc ?_
                                                                      refine ev_aload_n (q := 630) dL_law_629 rfl rfl ?_
                                                                      refine ev_bipush (q := 632) (v := (36 : Int32)) dL_law_630 rfl (by decide) ?_
                                                                      replace h := Option.bind_eq_some_iff.mp h; obtain ⟨q93, hq93, h⟩ := h
                                                                      obtain ⟨hxq93, fsq93, hkq93⟩ := kO_spec hq93
                                                                      cases hxq93
                                                                      replace h := Option.bind_eq_some_iff.mp h; obtain ⟨r92, hr92, h⟩ := h
                                                                      refine ev_invV (M1 := M_X10_who) (as := [vi ((36 : Int32))]) (fs := fsq93) (ci := 10) dL_law_632 rfl tw_633 cal_X10_who tw_634 tw_635 (by decide) rfl rfl (Nat.le_of_ble_eq_true rfl) hkq93 rfl (met_X10_who w.length (36 : Int32) r84.2 _ hr92) ?_
                                                                      refine ev_bipush (q := 637) (v := (-101 : Int32)) dL_law_635 rfl (by decide) ?_
                                                                      by_cases hc : r92 = (-101 : Int32)
                                                                      · rw [if_pos hc] at h
                                                                        refine ev_icmp_ne_f (q := 640) (t0 := 703) dL_law_637 (by decide) rfl hc ?_
                                                                        refine ev_aload_n (q := 641) dL_law_640 rfl rfl ?_
                                                                        refine ev_iconst (q := 642) (v := (-1 : Int32)) dL_law_641 rfl (by decide) ?_
                                                                        replace h := Option.bind_eq_some_iff.mp h; obtain ⟨q95, hq95, h⟩ := h
                                                                        obtain ⟨hxq95, fsq95, hkq95⟩ := kO_spec hq95
                                                                        cases hxq95
                                                                        replace h := Option.bind_eq_some_iff.mp h; obtain ⟨r94, hr94, h⟩ := h
                                                                        refine ev_invV (M1 := M_X10_who) (as := [vi ((-1 : Int32))]) (fs := fsq95) (ci := 10) dL_law_642 rfl tw_633 cal_X10_who tw_634 tw_635 (by decide) rfl rfl (Nat.le_of_ble_eq_true rfl) hkq95 rfl (met_X10_who w.length (-1 : Int32) r84.2 _ hr94) ?_
                                                                        refine ev_bipush (q := 647) (v := (-101 : Int32)) dL_law_645 rfl (by decide) ?_
                                                                        by_cases hc : r94 = (-101 : Int32)
                                                                        · rw [if_pos hc] at h
                                                                          refine ev_icmp_ne_f (q := 650) (t0 := 703) dL_law_647 (by decide) rfl hc ?_
                                                                          refine ev_aload_n (q := 651) dL_law_650 rfl rfl ?_
                                                                          refine ev_iconst (q := 652) (v := (0 : Int32)) dL_law_651 rfl (by decide) ?_
                                                                          refine ev_iconst (q := 653) (v := (0 : Int32)) dL_law_652 rfl (by decide) ?_
                                                                          refine ev_iconst (q := 654) (v := (0 : Int32)) dL_law_653 rfl (by decide) ?_
                                                                          replace h := Option.bind_eq_some_iff.mp h; obtain ⟨q97, hq97, h⟩ := h
                                                                          obtain ⟨hxq97, fsq97, hkq97⟩ := kO_spec hq97
                                                                          cases hxq97
                                                                          replace h := Option.bind_eq_some_iff.mp h; obtain ⟨r96, hr96, h⟩ := h
                                                                          refine ev_invV (M1 := M_X10_seasons) (as := [vi ((0 : Int32)), vi ((0 : Int32)), vi ((0 : Int32))]) (fs := fsq97) (ci := 10) dL_law_654 rfl tw_641 cal_X10_seasons tw_642 tw_643 (by decide) rfl rfl (Nat.le_of_ble_eq_true rfl) hkq97 rfl (met_X10_seasons w.length (0 : Int32) (0 : Int32) (0 : Int32) r84.2 _ hr96) ?_
                                                                          refine ev_bipush (q := 659) (v := (-102 : Int32)) dL_law_657 rfl (by decide) ?_
                                                                          by_cases hc : r96 = (-102 : Int32)
                                                                          · rw [if_pos hc] at h
                                                                            refine ev_icmp_ne_f (q := 662) (t0 := 703) dL_law_659 (by decide) rfl hc ?_
                                                                            refine ev_aload_n (q := 663) dL_law_662 rfl rfl ?_
                                                                            refine ev_bipush (q := 665) (v := (61 : Int32)) dL_law_663 rfl (by decide) ?_
                                                                            refine ev_iconst (q := 666) (v := (0 : Int32)) dL_law_665 rfl (by decide) ?_
                                                                            refine ev_iconst (q := 667) (v := (0 : Int32)) dL_law_666 rfl (by decide) ?_
                                                                            replace h := Option.bind_eq_some_iff.mp h; obtain ⟨q99, hq99, h⟩ := h
                                                                            obtain ⟨hxq99, fsq99, hkq99⟩ := kO_spec hq99
                                                                            cases hxq99
                                                                            replace h := Option.bind_eq_some_iff.mp h; obtain ⟨r98, hr98, h⟩ := h
                                                                            refine ev_invV (M1 := M_X10_seasons) (as := [vi ((61 : Int32)), vi ((0 : Int32)), vi ((0 : Int32))]) (fs := fsq99) (ci := 10) dL_law_667 rfl tw_641 cal_X10_seasons tw_642 tw_643 (by decide) rfl rfl (Nat.le_of_ble_eq_true rfl) hkq99 rfl (met_X10_seasons w.length (61 : Int32) (0 : Int32) (0 : Int32) r84.2 _ hr98) ?_
                                                                            refine ev_bipush (q := 672) (v := (-102 : Int32)) dL_law_670 rfl (by decide) ?_
                                                                            by_cases hc : r98 = (-102 : Int32)
                                                                            · rw [if_pos hc] at h
                                                                              refine ev_icmp_ne_f (q := 675) (t0 := 703) dL_law_672 (by decide) rfl hc ?_
                                                                              refine ev_aload_n (q := 676) dL_law_675 rfl rfl ?_
                                                                              refine ev_iconst (q := 677) (v := (1 : Int32)) dL_law_676 rfl (by decide) ?_
                                                                              refine ev_iconst (q := 678) (v := (-1 : Int32)) dL_law_677 rfl (by decide) ?_
                                                                              refine ev_iconst (q := 679) (v := (0 : Int32)) dL_law_678 rfl (by decide) ?_
                                                                              replace h := Option.bind_eq_some_iff.mp h; obtain ⟨q101, hq101, h⟩ := h
                                                                              obtain ⟨hxq101, fsq101, hkq101⟩ := kO_spec hq101
                                                                              cases hxq101
                                                                              replace h := Option.bind_eq_some_iff.mp h; obtain ⟨r100, hr100, h⟩ := h
                                                                              refine ev_invV (M1 := M_X10_seasons) (as := [vi ((1 : Int32)), vi ((-1 : Int32)), vi ((0 : Int32))]) (fs := fsq101) (ci := 10) dL_law_679 rfl tw_641 cal_X10_seasons tw_642 tw_643 (by decide) rfl rfl (Nat.le_of_ble_eq_true rfl) hkq101 rfl (met_X10_seasons w.length (1 : Int32) (-1 : Int32) (0 : Int32) r84.2 _ hr100) ?_
                                                                              refine ev_bipush (q := 684) (v := (-102 : Int32)) dL_law_682 rfl (by decide) ?_
                                                                              by_cases hc : r100 = (-102 : Int32)
                                                                              · rw [if_pos hc] at h
                                                                                refine ev_icmp_ne_f (q := 687) (t0 := 703) dL_law_684 (by decide) rfl hc ?_
                                                                                refine ev_aload_n (q := 688) dL_law_687 rfl rfl ?_
                                                                                refine ev_iconst (q := 689) (v := (1 : Int32)) dL_law_688 rfl (by decide) ?_
                                                                                refine ev_iconst (q := 690) (v := (0 : Int32)) dL_law_689 rfl (by decide) ?_
                                                                                refine ev_iconst (q := 691) (v := (3 : Int32)) dL_law_690 rfl (by decide) ?_
                                                                                replace h := Option.bind_eq_some_iff.mp h; obtain ⟨q103, hq103, h⟩ := h
                                                                                obtain ⟨hxq103, fsq103, hkq103⟩ := kO_spec hq103
                                                                                cases hxq103
                                                                                replace h := Option.bind_eq_some_iff.mp h; obtain ⟨r102, hr102, h⟩ := h
                                                                                refine ev_invV (M1 := M_X10_seasons) (as := [vi ((1 : Int32)), vi ((0 : Int32)), vi ((3 : Int32))]) (fs := fsq103) (ci := 10) dL_law_691 rfl tw_641 cal_X10_seasons tw_642 tw_643 (by decide) rfl rfl (Nat.le_of_ble_eq_true rfl) hkq103 rfl (met_X10_seasons w.length (1 : Int32) (0 : Int32) (3 : Int32) r84.2 _ hr102) ?_
                                                                                refine ev_bipush (q := 696) (v := (-102 : Int32)) dL_law_694 rfl (by decide) ?_
                                                                                by_cases hc : r102 = (-102 : Int32)
                                                                                · rw [if_pos hc] at h
                                                                                  refine ev_icmp_ne_f (q := 699) (t0 := 703) dL_law_696 (by decide) rfl hc ?_
                                                                                  refine ev_iconst (q := 700) (v := (1 : Int32)) dL_law_699 rfl (by decide) ?_
                                                                                  refine ev_goto (q := 704) dL_law_700 (by decide) ?_
                                                                                  exact ev_weak _ (mLe_none (mLe_none (mLe_none (mLe_none (mLe_none (mLe_none (mLe_none (mLe_none mLe_nil)))))))) (e_L_law_J704 (1 : Int32) r84.2 _ h)
                                                                                · rw [if_neg hc] at h
                                                                                  refine ev_icmp_ne_t (q := 703) dL_law_696 (by decide) hc ?_
                                                                                  exact ev_weak _ (mLe_none (mLe_none (mLe_none (mLe_none (mLe_none (mLe_none (mLe_none (mLe_none mLe_nil)))))))) (e_L_law_J703 r84.2 _ h)
                                                                              · rw [if_neg hc] at h
                                                                                refine ev_icmp_ne_t (q := 703) dL_law_684 (by decide) hc ?_
                                                                                exact ev_weak _ (mLe_none (mLe_none (mLe_none (mLe_none (mLe_none (mLe_none (mLe_none (mLe_none mLe_nil)))))))) (e_L_law_J703 r84.2 _ h)
                                                                            · rw [if_neg hc] at h
                                                                              refine ev_icmp_ne_t (q := 703) dL_law_672 (by decide) hc ?_
                                                                              exact ev_weak _ (mLe_none (mLe_none (mLe_none (mLe_none (mLe_none (mLe_none (mLe_none (mLe_none mLe_nil)))))))) (e_L_law_J703 r84.2 _ h)
                                                                          · rw [if_neg hc] at h
                                                                            refine ev_icmp_ne_t (q := 703) dL_law_659 (by decide) hc ?_
                                                                            exact ev_weak _ (mLe_none (mLe_none (mLe_none (mLe_none (mLe_none (mLe_none (mLe_none (mLe_none mLe_nil)))))))) (e_L_law_J703 r84.2 _ h)
                                                                        · rw [if_neg hc] at h
                                                                          refine ev_icmp_ne_t (q := 703) dL_law_647 (by decide) hc ?_
                                                                          exact ev_weak _ (mLe_none (mLe_none (mLe_none (mLe_none (mLe_none (mLe_none (mLe_none (mLe_none mLe_nil)))))))) (e_L_law_J703 r84.2 _ h)
                                                                      · rw [if_neg hc] at h
                                                                        refine ev_icmp_ne_t (q := 703) dL_law_637 (by decide) hc ?_
                                                                        exact ev_weak _ (mLe_none (mLe_none (mLe_none (mLe_none (mLe_none (mLe_none (mLe_none (mLe_none mLe_nil)))))))) (e_L_law_J703 r84.2 _ h)
                                                                    · rw [if_neg hc] at h
                                                                      refine ev_icmp_ne_t (q := 703) dL_law_626 (by decide) hc ?_
                                                                      exact ev_weak _ (mLe_none (mLe_none (mLe_none (mLe_none (mLe_none (mLe_none (mLe_none (mLe_none mLe_nil)))))))) (e_L_law_J703 r84.2 _ h)
                                                                  · rw [if_neg hc] at h
                                                                    refine ev_icmp_ne_t (q := 703) dL_law_613 (by decide) hc ?_
                                                                    exact ev_weak _ (mLe_none (mLe_none (mLe_none (mLe_none (mLe_none (mLe_none (mLe_none (mLe_none mLe_nil)))))))) (e_L_law_J703 r84.2 _ h)
                                                                · rw [if_neg hc] at h
                                                                  refine ev_icmp_ne_t (q := 703) dL_law_600 (by decide) hc ?_
                                                                  exact ev_weak _ (mLe_none (mLe_none (mLe_none (mLe_none (mLe_none (mLe_none (mLe_none (mLe_none mLe_nil)))))))) (e_L_law_J703 r84.2 _ h)
                                                              · rw [if_neg hc] at h
                                                                refine ev_icmp_ne_t (q := 703) dL_law_587 (by decide) hc ?_
                                                                exact ev_weak _ (mLe_none (mLe_none (mLe_none (mLe_none (mLe_none (mLe_none (mLe_none (mLe_none mLe_nil)))))))) (e_L_law_J703 r84.2 _ h)
                                                            · rw [if_neg hc] at h
                                                              refine ev_icmp_ne_t (q := 703) dL_law_576 (by decide) hc ?_
                                                              exact ev_weak _ (mLe_none (mLe_none (mLe_none (mLe_none (mLe_none (mLe_none (mLe_none (mLe_none mLe_nil)))))))) (e_L_law_J703 r82.2 _ h)
                                                          · rw [if_neg hc] at h
                                                            refine ev_icmp_ne_t (q := 703) dL_law_566 (by decide) hc ?_
                                                            exact ev_weak _ (mLe_none (mLe_none (mLe_none (mLe_none (mLe_none (mLe_none (mLe_none (mLe_none mLe_nil)))))))) (e_L_law_J703 r80.2 _ h)
                                                        · rw [if_neg hc] at h
                                                          refine ev_icmp_ne_t (q := 703) dL_law_554 (by decide) hc ?_
                                                          exact ev_weak _ (mLe_none (mLe_none (mLe_none (mLe_none (mLe_none (mLe_none (mLe_none (mLe_none mLe_nil)))))))) (e_L_law_J703 r78.2 _ h)
                                                      · rw [if_neg hc] at h
                                                        refine ev_icmp_ne_t (q := 703) dL_law_542 (by decide) hc ?_
                                                        exact ev_weak _ (mLe_none (mLe_none (mLe_none (mLe_none (mLe_none (mLe_none (mLe_none (mLe_none mLe_nil)))))))) (e_L_law_J703 r76.2 _ h)
                                                    · rw [if_neg hc] at h
                                                      refine ev_icmp_ne_t (q := 703) dL_law_529 (by decide) hc ?_
                                                      exact ev_weak _ (mLe_none (mLe_none (mLe_none (mLe_none (mLe_none (mLe_none (mLe_none (mLe_none mLe_nil)))))))) (e_L_law_J703 r74.2 _ h)
                                                  · rw [if_neg hc] at h
                                                    refine ev_icmp_ne_t (q := 703) dL_law_517 (by decide) hc ?_
                                                    exact ev_weak _ (mLe_none (mLe_none (mLe_none (mLe_none (mLe_none (mLe_none (mLe_none (mLe_none mLe_nil)))))))) (e_L_law_J703 r72.2 _ h)
                                                · rw [if_neg hc] at h
                                                  refine ev_icmp_ne_t (q := 703) dL_law_505 (by decide) hc ?_
                                                  exact ev_weak _ (mLe_none (mLe_none (mLe_none (mLe_none (mLe_none (mLe_none (mLe_none (mLe_none mLe_nil)))))))) (e_L_law_J703 r70.2 _ h)
                                              · rw [if_neg hc] at h
                                                refine ev_icmp_ne_t (q := 703) dL_law_494 (by decide) hc ?_
                                                exact ev_weak _ (mLe_none (mLe_none (mLe_none (mLe_none (mLe_none (mLe_none (mLe_none (mLe_none mLe_nil)))))))) (e_L_law_J703 r68.2 _ h)
                                            · rw [if_neg hc] at h
                                              refine ev_icmp_ne_t (q := 703) dL_law_484 (by decide) hc ?_
                                              exact ev_weak _ (mLe_none (mLe_none (mLe_none (mLe_none (mLe_none (mLe_none (mLe_none (mLe_none mLe_nil)))))))) (e_L_law_J703 r66.2 _ h)
                                          · rw [if_neg hc] at h
                                            refine ev_icmp_ne_t (q := 703) dL_law_472 (by decide) hc ?_
                                            exact ev_weak _ (mLe_none (mLe_none (mLe_none (mLe_none (mLe_none (mLe_none (mLe_none (mLe_none mLe_nil)))))))) (e_L_law_J703 r64.2 _ h)
                                        · rw [if_neg hc] at h
                                          refine ev_icmp_ne_t (q := 703) dL_law_460 (by decide) hc ?_
                                          exact ev_weak _ (mLe_none (mLe_none (mLe_none (mLe_none (mLe_none (mLe_none (mLe_none (mLe_none mLe_nil)))))))) (e_L_law_J703 r44.2 _ h)
                                      · rw [if_neg hc] at h
                                        refine ev_icmp_ne_t (q := 703) dL_law_449 (by decide) hc ?_
                                        exact ev_weak _ (mLe_none (mLe_none (mLe_none (mLe_none (mLe_none (mLe_none (mLe_none (mLe_none mLe_nil)))))))) (e_L_law_J703 r44.2 _ h)
                                    · rw [if_neg hc] at h
                                      refine ev_icmp_ne_t (q := 703) dL_law_437 (by decide) hc ?_
                                      exact ev_weak _ (mLe_none (mLe_none (mLe_none (mLe_none (mLe_none (mLe_none (mLe_none (mLe_none mLe_nil)))))))) (e_L_law_J703 r44.2 _ h)
                                  · rw [if_neg hc] at h
                                    refine ev_icmp_ne_t (q := 703) dL_law_425 (by decide) hc ?_
                                    exact ev_weak _ (mLe_none (mLe_none (mLe_none (mLe_none (mLe_none (mLe_none (mLe_none (mLe_none mLe_nil)))))))) (e_L_law_J703 r44.2 _ h)
                                · rw [if_neg hc] at h
                                  refine ev_icmp_ne_t (q := 703) dL_law_413 (by decide) hc ?_
                                  exact ev_weak _ (mLe_none (mLe_none (mLe_none (mLe_none (mLe_none (mLe_none (mLe_none (mLe_none mLe_nil)))))))) (e_L_law_J703 r44.2 _ h)
                              · rw [if_neg hc] at h
                                refine ev_icmp_ne_t (q := 703) dL_law_402 (by decide) hc ?_
                                exact ev_weak _ (mLe_none (mLe_none (mLe_none (mLe_none (mLe_none (mLe_none (mLe_none (mLe_none mLe_nil)))))))) (e_L_law_J703 r44.2 _ h)
                            · rw [if_neg hc] at h
                              refine ev_icmp_ne_t (q := 703) dL_law_390 (by decide) hc ?_
                              exact ev_weak _ (mLe_none (mLe_none (mLe_none (mLe_none (mLe_none (mLe_none (mLe_none (mLe_none mLe_nil)))))))) (e_L_law_J703 r44.2 _ h)
                          · rw [if_neg hc] at h
                            refine ev_icmp_ne_t (q := 703) dL_law_378 (by decide) hc ?_
                            exact ev_weak _ (mLe_none (mLe_none (mLe_none (mLe_none (mLe_none (mLe_none (mLe_none (mLe_none mLe_nil)))))))) (e_L_law_J703 r44.2 _ h)
                        · rw [if_neg hc] at h
                          refine ev_icmp_ne_t (q := 703) dL_law_367 (by decide) hc ?_
                          exact ev_weak _ (mLe_none (mLe_none (mLe_none (mLe_none (mLe_none (mLe_none (mLe_none (mLe_none mLe_nil)))))))) (e_L_law_J703 r44.2 _ h)
                      · rw [if_neg hc] at h
                        refine ev_icmp_ne_t (q := 703) dL_law_355 (by decide) hc ?_
                        exact ev_weak _ (mLe_none (mLe_none (mLe_none (mLe_none (mLe_none (mLe_none (mLe_none (mLe_none mLe_nil)))))))) (e_L_law_J703 r44.2 _ h)
                    · rw [if_neg hc] at h
                      refine ev_icmp_ne_t (q := 703) dL_law_344 (by decide) hc ?_
                      exact ev_weak _ (mLe_none (mLe_none (mLe_none (mLe_none (mLe_none (mLe_none (mLe_none (mLe_none mLe_nil)))))))) (e_L_law_J703 r42.2 _ h)
                  · rw [if_neg hc] at h
                    refine ev_icmp_ne_t (q := 703) dL_law_333 (by decide) hc ?_
                    exact ev_weak _ (mLe_none (mLe_none (mLe_none (mLe_none (mLe_none (mLe_none (mLe_none (mLe_none mLe_nil)))))))) (e_L_law_J703 r40.2 _ h)
      · rw [if_neg hc] at h
        refine ev_icmp_ne_t (q := 74) dL_law_62 (by decide) hc ?_
        exact ev_weak _ (mLe_none (mLe_none (mLe_none (mLe_none (mLe_none (mLe_none (mLe_none (mLe_none mLe_nil)))))))) (e_L_law_J74 r28.2 _ h)
    · rw [if_neg hc] at h
      refine ev_icmp_ne_t (q := 74) dL_law_52 (by decide) hc ?_
      exact ev_weak _ (mLe_none (mLe_none (mLe_none (mLe_none (mLe_none (mLe_none (mLe_none (mLe_none mLe_nil)))))))) (e_L_law_J74 r26.2 _ h)
