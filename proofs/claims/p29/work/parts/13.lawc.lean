def f_L_portText_J384 (X : mXs) (kc : Int32 → Int32 → mW → Option (Int32 × mW)) (v1 : Int32) (v2 : Option Nat) (v3 : Option Nat) (v4 : Option Nat) (v5 : Int32) (v8 : Int32) (s0 : Option Nat) (s1 : Int32) (s2 : Int32) (w : mW) : Option (Int32 × mW) := Option.bind (aS w s0 s1 s2) fun w1 => Option.bind (aL w1 v3 ((24 : Int32) + v8)) fun r2 => Option.bind (aS w1 v4 v5 ((48 : Int32) + r2)) fun w3 => Option.bind (aL w3 v3 ((28 : Int32) + v8)) fun r4 => Option.bind (aS w3 v4 (v5 + (1 : Int32)) ((48 : Int32) + r4)) fun w5 => kc ((v5 + (1 : Int32)) + (1 : Int32)) (v8 + (1 : Int32)) w5
set_option maxRecDepth 100000 in
set_option maxHeartbeats 4000000 in
theorem e_L_portText_J384 {X : mXs} {r : Option mV} {w' : mW} (P : (Int32 × mW) → Prop) (v1 : Int32) (v2 : Option Nat) (v3 : Option Nat) (v4 : Option Nat) (v5 : Int32) (v8 : Int32) (s0 : Option Nat) (s1 : Int32) (s2 : Int32) (w : mW) (kc : Int32 → Int32 → mW → Option (Int32 × mW)) (hk : ∀ (u5 : Int32) (u8 : Int32) (uw : mW) (e : Int32 × mW), kc u5 u8 uw = some e → P e → mEv X M_L_portText 1 r w' 232 [some (vx 0), some (vi v1), some (vr v2), some (vr v3), some (vr v4), some (vi u5), none, none, some (vi u8), none, none, none, none] [] uw) (e : Int32 × mW) (h : f_L_portText_J384 X kc v1 v2 v3 v4 v5 v8 s0 s1 s2 w = some e) (hP : P e) : mEv X M_L_portText 1 r w' 384 [some (vx 0), some (vi v1), some (vr v2), some (vr v3), some (vr v4), some (vi v5), none, none, some (vi v8), none, none, none, none] [vi s2, vi s1, vr s0] w := by
  unfold f_L_portText_J384 at h
  replace h := Option.bind_eq_some_iff.mp h; obtain ⟨w1, hw1, h⟩ := h
  refine ev_aS dL_portText_384 hw1 rfl ?_
  refine ev_aload (q := 387) dL_portText_385 rfl rfl ?_
  refine ev_iload (q := 389) dL_portText_387 rfl rfl ?_
  refine ev_iinc (q := 392) (v := v5 + (1 : Int32)) dL_portText_389 rfl (by decide) rfl (by rfl) ?_
  refine ev_bipush (q := 394) (v := (48 : Int32)) dL_portText_392 rfl (by decide) ?_
  refine ev_aload_n (q := 395) dL_portText_394 rfl rfl ?_
  refine ev_bipush (q := 397) (v := (24 : Int32)) dL_portText_395 rfl (by decide) ?_
  refine ev_iload (q := 399) dL_portText_397 rfl rfl ?_
  refine ev_iadd (q := 400) dL_portText_399 rfl ?_
  replace h := Option.bind_eq_some_iff.mp h; obtain ⟨r2, hr2, h⟩ := h
  refine ev_aL dL_portText_400 hr2 rfl ?_
  refine ev_iadd (q := 402) dL_portText_401 rfl ?_
  replace h := Option.bind_eq_some_iff.mp h; obtain ⟨w3, hw3, h⟩ := h
  refine ev_aS dL_portText_402 hw3 rfl ?_
  refine ev_aload (q := 405) dL_portText_403 rfl rfl ?_
  refine ev_iload (q := 407) dL_portText_405 rfl rfl ?_
  refine ev_iinc (q := 410) (v := (v5 + (1 : Int32)) + (1 : Int32)) dL_portText_407 rfl (by decide) rfl (by rfl) ?_
  refine ev_bipush (q := 412) (v := (48 : Int32)) dL_portText_410 rfl (by decide) ?_
  refine ev_aload_n (q := 413) dL_portText_412 rfl rfl ?_
  refine ev_bipush (q := 415) (v := (28 : Int32)) dL_portText_413 rfl (by decide) ?_
  refine ev_iload (q := 417) dL_portText_415 rfl rfl ?_
  refine ev_iadd (q := 418) dL_portText_417 rfl ?_
  replace h := Option.bind_eq_some_iff.mp h; obtain ⟨r4, hr4, h⟩ := h
  refine ev_aL dL_portText_418 hr4 rfl ?_
  refine ev_iadd (q := 420) dL_portText_419 rfl ?_
  replace h := Option.bind_eq_some_iff.mp h; obtain ⟨w5, hw5, h⟩ := h
  refine ev_aS dL_portText_420 hw5 rfl ?_
  refine ev_iinc (q := 424) (v := v8 + (1 : Int32)) dL_portText_421 rfl (by decide) rfl (by rfl) ?_
  refine ev_goto (q := 232) dL_portText_424 (by decide) ?_
  exact ev_weak _ (mLe_some (mLe_some (mLe_some (mLe_some (mLe_some (mLe_some (mLe_none (mLe_none (mLe_some (mLe_none (mLe_none (mLe_none (mLe_none mLe_nil))))))))))))) (hk ((v5 + (1 : Int32)) + (1 : Int32)) (v8 + (1 : Int32)) w5 _ h hP)
def f_L_portText_J315 (X : mXs) (kc : Int32 → Int32 → mW → Option (Int32 × mW)) (v1 : Int32) (v2 : Option Nat) (v3 : Option Nat) (v4 : Option Nat) (v5 : Int32) (v8 : Int32) (s0 : Option Nat) (s1 : Int32) (s2 : Int32) (w : mW) : Option (Int32 × mW) := Option.bind (aS w s0 s1 s2) fun w6 => Option.bind (aL w6 v2 ((2 : Int32) + v8)) fun r7 => if r7 = 0 then (f_L_portText_J384 X kc v1 v2 v3 v4 (v5 + (1 : Int32)) v8 v4 v5 (116 : Int32) w6) else (Option.bind (aL w6 v2 ((2 : Int32) + v8)) fun r8 => if r8 = (1 : Int32) then (f_L_portText_J384 X kc v1 v2 v3 v4 (v5 + (1 : Int32)) v8 v4 v5 (108 : Int32) w6) else (Option.bind (aL w6 v2 ((2 : Int32) + v8)) fun r9 => if r9 = (2 : Int32) then (f_L_portText_J384 X kc v1 v2 v3 v4 (v5 + (1 : Int32)) v8 v4 v5 (119 : Int32) w6) else (Option.bind (aL w6 v2 ((2 : Int32) + v8)) fun r10 => if r10 = (3 : Int32) then (f_L_portText_J384 X kc v1 v2 v3 v4 (v5 + (1 : Int32)) v8 v4 v5 (104 : Int32) w6) else (f_L_portText_J384 X kc v1 v2 v3 v4 (v5 + (1 : Int32)) v8 v4 v5 (109 : Int32) w6))))
set_option maxRecDepth 100000 in
set_option maxHeartbeats 4000000 in
theorem e_L_portText_J315 {X : mXs} {r : Option mV} {w' : mW} (P : (Int32 × mW) → Prop) (v1 : Int32) (v2 : Option Nat) (v3 : Option Nat) (v4 : Option Nat) (v5 : Int32) (v8 : Int32) (s0 : Option Nat) (s1 : Int32) (s2 : Int32) (w : mW) (kc : Int32 → Int32 → mW → Option (Int32 × mW)) (hk : ∀ (u5 : Int32) (u8 : Int32) (uw : mW) (e : Int32 × mW), kc u5 u8 uw = some e → P e → mEv X M_L_portText 1 r w' 232 [some (vx 0), some (vi v1), some (vr v2), some (vr v3), some (vr v4), some (vi u5), none, none, some (vi u8), none, none, none, none] [] uw) (e : Int32 × mW) (h : f_L_portText_J315 X kc v1 v2 v3 v4 v5 v8 s0 s1 s2 w = some e) (hP : P e) : mEv X M_L_portText 1 r w' 315 [some (vx 0), some (vi v1), some (vr v2), some (vr v3), some (vr v4), some (vi v5), none, none, some (vi v8), none, none, none, none] [vi s2, vi s1, vr s0] w := by
  unfold f_L_portText_J315 at h
  replace h := Option.bind_eq_some_iff.mp h; obtain ⟨w6, hw6, h⟩ := h
  refine ev_aS dL_portText_315 hw6 rfl ?_
  refine ev_aload (q := 318) dL_portText_316 rfl rfl ?_
  refine ev_iload (q := 320) dL_portText_318 rfl rfl ?_
  refine ev_iinc (q := 323) (v := v5 + (1 : Int32)) dL_portText_320 rfl (by decide) rfl (by rfl) ?_
  refine ev_aload_n (q := 324) dL_portText_323 rfl rfl ?_
  refine ev_iconst (q := 325) (v := (2 : Int32)) dL_portText_324 rfl (by decide) ?_
  refine ev_iload (q := 327) dL_portText_325 rfl rfl ?_
  refine ev_iadd (q := 328) dL_portText_327 rfl ?_
  replace h := Option.bind_eq_some_iff.mp h; obtain ⟨r7, hr7, h⟩ := h
  refine ev_aL dL_portText_328 hr7 rfl ?_
  by_cases hc : r7 = 0
  · rw [if_pos hc] at h
    refine ev_if_ne_f (q := 332) (t0 := 337) dL_portText_329 (by decide) rfl hc ?_
    refine ev_bipush (q := 334) (v := (116 : Int32)) dL_portText_332 rfl (by decide) ?_
    refine ev_goto (q := 384) dL_portText_334 (by decide) ?_
    exact ev_weak _ (mLe_some (mLe_some (mLe_some (mLe_some (mLe_some (mLe_some (mLe_none (mLe_none (mLe_some (mLe_none (mLe_none (mLe_none (mLe_none mLe_nil))))))))))))) (e_L_portText_J384 P v1 v2 v3 v4 (v5 + (1 : Int32)) v8 v4 v5 (116 : Int32) w6 _ hk  _ h hP)
  · rw [if_neg hc] at h
    refine ev_if_ne_t (q := 337) dL_portText_329 (by decide) hc ?_
    refine ev_aload_n (q := 338) dL_portText_337 rfl rfl ?_
    refine ev_iconst (q := 339) (v := (2 : Int32)) dL_portText_338 rfl (by decide) ?_
    refine ev_iload (q := 341) dL_portText_339 rfl rfl ?_
    refine ev_iadd (q := 342) dL_portText_341 rfl ?_
    replace h := Option.bind_eq_some_iff.mp h; obtain ⟨r8, hr8, h⟩ := h
    refine ev_aL dL_portText_342 hr8 rfl ?_
    refine ev_iconst (q := 344) (v := (1 : Int32)) dL_portText_343 rfl (by decide) ?_
    by_cases hc : r8 = (1 : Int32)
    · rw [if_pos hc] at h
      refine ev_icmp_ne_f (q := 347) (t0 := 352) dL_portText_344 (by decide) rfl hc ?_
      refine ev_bipush (q := 349) (v := (108 : Int32)) dL_portText_347 rfl (by decide) ?_
      refine ev_goto (q := 384) dL_portText_349 (by decide) ?_
      exact ev_weak _ (mLe_some (mLe_some (mLe_some (mLe_some (mLe_some (mLe_some (mLe_none (mLe_none (mLe_some (mLe_none (mLe_none (mLe_none (mLe_none mLe_nil))))))))))))) (e_L_portText_J384 P v1 v2 v3 v4 (v5 + (1 : Int32)) v8 v4 v5 (108 : Int32) w6 _ hk  _ h hP)
    · rw [if_neg hc] at h
      refine ev_icmp_ne_t (q := 352) dL_portText_344 (by decide) hc ?_
      refine ev_aload_n (q := 353) dL_portText_352 rfl rfl ?_
      refine ev_iconst (q := 354) (v := (2 : Int32)) dL_portText_353 rfl (by decide) ?_
      refine ev_iload (q := 356) dL_portText_354 rfl rfl ?_
      refine ev_iadd (q := 357) dL_portText_356 rfl ?_
      replace h := Option.bind_eq_some_iff.mp h; obtain ⟨r9, hr9, h⟩ := h
      refine ev_aL dL_portText_357 hr9 rfl ?_
      refine ev_iconst (q := 359) (v := (2 : Int32)) dL_portText_358 rfl (by decide) ?_
      by_cases hc : r9 = (2 : Int32)
      · rw [if_pos hc] at h
        refine ev_icmp_ne_f (q := 362) (t0 := 367) dL_portText_359 (by decide) rfl hc ?_
        refine ev_bipush (q := 364) (v := (119 : Int32)) dL_portText_362 rfl (by decide) ?_
        refine ev_goto (q := 384) dL_portText_364 (by decide) ?_
        exact ev_weak _ (mLe_some (mLe_some (mLe_some (mLe_some (mLe_some (mLe_some (mLe_none (mLe_none (mLe_some (mLe_none (mLe_none (mLe_none (mLe_none mLe_nil))))))))))))) (e_L_portText_J384 P v1 v2 v3 v4 (v5 + (1 : Int32)) v8 v4 v5 (119 : Int32) w6 _ hk  _ h hP)
      · rw [if_neg hc] at h
        refine ev_icmp_ne_t (q := 367) dL_portText_359 (by decide) hc ?_
        refine ev_aload_n (q := 368) dL_portText_367 rfl rfl ?_
        refine ev_iconst (q := 369) (v := (2 : Int32)) dL_portText_368 rfl (by decide) ?_
        refine ev_iload (q := 371) dL_portText_369 rfl rfl ?_
        refine ev_iadd (q := 372) dL_portText_371 rfl ?_
        replace h := Option.bind_eq_some_iff.mp h; obtain ⟨r10, hr10, h⟩ := h
        refine ev_aL dL_portText_372 hr10 rfl ?_
        refine ev_iconst (q := 374) (v := (3 : Int32)) dL_portText_373 rfl (by decide) ?_
        by_cases hc : r10 = (3 : Int32)
        · rw [if_pos hc] at h
          refine ev_icmp_ne_f (q := 377) (t0 := 382) dL_portText_374 (by decide) rfl hc ?_
          refine ev_bipush (q := 379) (v := (104 : Int32)) dL_portText_377 rfl (by decide) ?_
          refine ev_goto (q := 384) dL_portText_379 (by decide) ?_
          exact ev_weak _ (mLe_some (mLe_some (mLe_some (mLe_some (mLe_some (mLe_some (mLe_none (mLe_none (mLe_some (mLe_none (mLe_none (mLe_none (mLe_none mLe_nil))))))))))))) (e_L_portText_J384 P v1 v2 v3 v4 (v5 + (1 : Int32)) v8 v4 v5 (104 : Int32) w6 _ hk  _ h hP)
        · rw [if_neg hc] at h
          refine ev_icmp_ne_t (q := 382) dL_portText_374 (by decide) hc ?_
          refine ev_bipush (q := 384) (v := (109 : Int32)) dL_portText_382 rfl (by decide) ?_
          exact ev_weak _ (mLe_some (mLe_some (mLe_some (mLe_some (mLe_some (mLe_some (mLe_none (mLe_none (mLe_some (mLe_none (mLe_none (mLe_none (mLe_none mLe_nil))))))))))))) (e_L_portText_J384 P v1 v2 v3 v4 (v5 + (1 : Int32)) v8 v4 v5 (109 : Int32) w6 _ hk  _ h hP)
def f_L_portText_L232 (X : mXs) (v1 : Int32) (v2 : Option Nat) (v3 : Option Nat) (v4 : Option Nat) : Nat → Int32 → Int32 → mW → Option (Int32 × mW)
  | 0, _, _, _ => none
  | n + 1, v5, v8, w => Option.bind (aL w v2 (1 : Int32)) fun r11 => if r11 ≤ v8 then (some ((v5, w))) else (Option.bind (f_L_cell X ((v1 + (7 : Int32)) + v8) w) fun r12 => Option.bind (f_L_at r12 (5 : Int32) w) fun r13 => Option.bind (aS w v2 ((2 : Int32) + v8) r13) fun w14 => Option.bind (f_L_at (r12 >>> ((3 : Int32) &&& 31)) (5 : Int32) w14) fun r15 => Option.bind (aS w14 v3 ((24 : Int32) + v8) r15) fun w16 => Option.bind (f_L_at (r12 >>> ((6 : Int32) &&& 31)) (5 : Int32) w16) fun r17 => Option.bind (aS w16 v3 ((28 : Int32) + v8) r17) fun w18 => if v8 ≤ 0 then (f_L_portText_J315 X (f_L_portText_L232 X v1 v2 v3 v4 n) v1 v2 v3 v4 (v5 + (1 : Int32)) v8 v4 v5 (59 : Int32) w18) else (f_L_portText_J315 X (f_L_portText_L232 X v1 v2 v3 v4 n) v1 v2 v3 v4 (v5 + (1 : Int32)) v8 v4 v5 (44 : Int32) w18))
set_option maxRecDepth 100000 in
set_option maxHeartbeats 4000000 in
theorem e_L_portText_L232 {X : mXs} {r : Option mV} {w' : mW} (P : (Int32 × mW) → Prop) (v1 : Int32) (v2 : Option Nat) (v3 : Option Nat) (v4 : Option Nat) (hexit : ∀ y, P y → mEv X M_L_portText 1 r w' 427 [none, none, none, some (vr v3), none, some (vi y.1), none, none, none, none, none, none, none] [] y.2) : ∀ (n : Nat) (v5 : Int32) (v8 : Int32) (w : mW) (e : Int32 × mW), f_L_portText_L232 X v1 v2 v3 v4 n v5 v8 w = some e → P e → mEv X M_L_portText 1 r w' 232 [some (vx 0), some (vi v1), some (vr v2), some (vr v3), some (vr v4), some (vi v5), none, none, some (vi v8), none, none, none, none] [] w := by
  intro n
  induction n with
  | zero =>
    intro v5 v8 w e h hP
    rw [f_L_portText_L232] at h
    cases h
  | succ n hk =>
    intro v5 v8 w e h hP
    rw [f_L_portText_L232] at h
    refine ev_iload (q := 234) dL_portText_232 rfl rfl ?_
    refine ev_aload_n (q := 235) dL_portText_234 rfl rfl ?_
    refine ev_iconst (q := 236) (v := (1 : Int32)) dL_portText_235 rfl (by decide) ?_
    replace h := Option.bind_eq_some_iff.mp h; obtain ⟨r11, hr11, h⟩ := h
    refine ev_aL dL_portText_236 hr11 rfl ?_
    by_cases hc : r11 ≤ v8
    · rw [if_pos hc] at h
      refine ev_icmp_ge_t (q := 427) dL_portText_237 (by decide) hc ?_
      cases h
      exact ev_weak _ (mLe_none (mLe_none (mLe_none (mLe_some (mLe_none (mLe_some (mLe_none (mLe_none (mLe_none (mLe_none (mLe_none (mLe_none (mLe_none mLe_nil))))))))))))) (hexit _ hP)
    · rw [if_neg hc] at h
      refine ev_icmp_ge_f (q := 240) (t0 := 427) dL_portText_237 (by decide) rfl hc ?_
      refine ev_aload_n (q := 241) dL_portText_240 rfl rfl ?_
      refine ev_iload_n (q := 242) dL_portText_241 rfl rfl ?_
      refine ev_bipush (q := 244) (v := (7 : Int32)) dL_portText_242 rfl (by decide) ?_
      refine ev_iadd (q := 245) dL_portText_244 rfl ?_
      refine ev_iload (q := 247) dL_portText_245 rfl rfl ?_
      refine ev_iadd (q := 248) dL_portText_247 rfl ?_
      replace h := Option.bind_eq_some_iff.mp h; obtain ⟨r12, hr12, h⟩ := h
      refine ev_invSX (M1 := M_L_cell) (as := [vx 0, vi ((v1 + (7 : Int32)) + v8)]) dL_portText_248 rfl tw_655 cal_L_cell tw_656 (by decide) rfl rfl (Nat.le_of_ble_eq_true rfl) (met_L_cell X ((v1 + (7 : Int32)) + v8) w _ hr12) ?_
      refine ev_istore (q := 253) dL_portText_251 rfl (by decide) ?_
      refine ev_aload_n (q := 254) dL_portText_253 rfl rfl ?_
      refine ev_iconst (q := 255) (v := (2 : Int32)) dL_portText_254 rfl (by decide) ?_
      refine ev_iload (q := 257) dL_portText_255 rfl rfl ?_
      refine ev_iadd (q := 258) dL_portText_257 rfl ?_
      refine ev_iload (q := 260) dL_portText_258 rfl rfl ?_
      refine ev_iconst (q := 261) (v := (5 : Int32)) dL_portText_260 rfl (by decide) ?_
      replace h := Option.bind_eq_some_iff.mp h; obtain ⟨r13, hr13, h⟩ := h
      refine ev_invS (M1 := M_L_at) (as := [vi r12, vi ((5 : Int32))]) dL_portText_261 rfl tw_659 cal_L_at tw_660 (by decide) rfl rfl (Nat.le_of_ble_eq_true rfl) (met_L_at r12 (5 : Int32) w _ hr13) ?_
      replace h := Option.bind_eq_some_iff.mp h; obtain ⟨w14, hw14, h⟩ := h
      refine ev_aS dL_portText_264 hw14 rfl ?_
      refine ev_aload_n (q := 266) dL_portText_265 rfl rfl ?_
      refine ev_bipush (q := 268) (v := (24 : Int32)) dL_portText_266 rfl (by decide) ?_
      refine ev_iload (q := 270) dL_portText_268 rfl rfl ?_
      refine ev_iadd (q := 271) dL_portText_270 rfl ?_
      refine ev_iload (q := 273) dL_portText_271 rfl rfl ?_
      refine ev_iconst (q := 274) (v := (3 : Int32)) dL_portText_273 rfl (by decide) ?_
      refine ev_ishr (q := 275) dL_portText_274 rfl ?_
      refine ev_iconst (q := 276) (v := (5 : Int32)) dL_portText_275 rfl (by decide) ?_
      replace h := Option.bind_eq_some_iff.mp h; obtain ⟨r15, hr15, h⟩ := h
      refine ev_invS (M1 := M_L_at) (as := [vi (r12 >>> ((3 : Int32) &&& 31)), vi ((5 : Int32))]) dL_portText_276 rfl tw_659 cal_L_at tw_660 (by decide) rfl rfl (Nat.le_of_ble_eq_true rfl) (met_L_at (r12 >>> ((3 : Int32) &&& 31)) (5 : Int32) w14 _ hr15) ?_
      replace h := Option.bind_eq_some_iff.mp h; obtain ⟨w16, hw16, h⟩ := h
      refine ev_aS dL_portText_279 hw16 rfl ?_
      refine ev_aload_n (q := 281) dL_portText_280 rfl rfl ?_
      refine ev_bipush (q := 283) (v := (28 : Int32)) dL_portText_281 rfl (by decide) ?_
      refine ev_iload (q := 285) dL_portText_283 rfl rfl ?_
      refine ev_iadd (q := 286) dL_portText_285 rfl ?_
      refine ev_iload (q := 288) dL_portText_286 rfl rfl ?_
      refine ev_bipush (q := 290) (v := (6 : Int32)) dL_portText_288 rfl (by decide) ?_
      refine ev_ishr (q := 291) dL_portText_290 rfl ?_
      refine ev_iconst (q := 292) (v := (5 : Int32)) dL_portText_291 rfl (by decide) ?_
      replace h := Option.bind_eq_some_iff.mp h; obtain ⟨r17, hr17, h⟩ := h
      refine ev_invS (M1 := M_L_at) (as := [vi (r12 >>> ((6 : Int32) &&& 31)), vi ((5 : Int32))]) dL_portText_292 rfl tw_659 cal_L_at tw_660 (by decide) rfl rfl (Nat.le_of_ble_eq_true rfl) (met_L_at (r12 >>> ((6 : Int32) &&& 31)) (5 : Int32) w16 _ hr17) ?_
      replace h := Option.bind_eq_some_iff.mp h; obtain ⟨w18, hw18, h⟩ := h
      refine ev_aS dL_portText_295 hw18 rfl ?_
      refine ev_aload (q := 298) dL_portText_296 rfl rfl ?_
      refine ev_iload (q := 300) dL_portText_298 rfl rfl ?_
      refine ev_iinc (q := 303) (v := v5 + (1 : Int32)) dL_portText_300 rfl (by decide) rfl (by rfl) ?_
      refine ev_iload (q := 305) dL_portText_303 rfl rfl ?_
      by_cases hc : v8 ≤ 0
      · rw [if_pos hc] at h
        refine ev_if_le_t (q := 313) dL_portText_305 (by decide) hc ?_
        refine ev_bipush (q := 315) (v := (59 : Int32)) dL_portText_313 rfl (by decide) ?_
        exact ev_weak _ (mLe_some (mLe_some (mLe_some (mLe_some (mLe_some (mLe_some (mLe_none (mLe_none (mLe_some (mLe_none (mLe_none (mLe_none (mLe_none mLe_nil))))))))))))) (e_L_portText_J315 P v1 v2 v3 v4 (v5 + (1 : Int32)) v8 v4 v5 (59 : Int32) w18 _ hk  _ h hP)
      · rw [if_neg hc] at h
        refine ev_if_le_f (q := 308) (t0 := 313) dL_portText_305 (by decide) rfl hc ?_
        refine ev_bipush (q := 310) (v := (44 : Int32)) dL_portText_308 rfl (by decide) ?_
        refine ev_goto (q := 315) dL_portText_310 (by decide) ?_
        exact ev_weak _ (mLe_some (mLe_some (mLe_some (mLe_some (mLe_some (mLe_some (mLe_none (mLe_none (mLe_some (mLe_none (mLe_none (mLe_none (mLe_none mLe_nil))))))))))))) (e_L_portText_J315 P v1 v2 v3 v4 (v5 + (1 : Int32)) v8 v4 v5 (44 : Int32) w18 _ hk  _ h hP)
def f_L_portText_J191 (X : mXs) (kc : Int32 → Int32 → mW → Option (Int32 × mW)) (v1 : Int32) (v2 : Option Nat) (v3 : Option Nat) (v4 : Option Nat) (v5 : Int32) (v7 : Int32) (v8 : Int32) (v10 : Int32) (w : mW) : Option (Int32 × mW) := Option.bind (aS w v4 v5 ((48 : Int32) + (v10 / (6 : Int32)))) fun w19 => Option.bind (aS w19 v4 (v5 + (1 : Int32)) ((48 : Int32) + (v10 - v10 / (6 : Int32) * (6 : Int32)))) fun w20 => kc ((v5 + (1 : Int32)) + (1 : Int32)) (v8 + (1 : Int32)) w20
set_option maxRecDepth 100000 in
set_option maxHeartbeats 4000000 in
theorem e_L_portText_J191 {X : mXs} {r : Option mV} {w' : mW} (P : (Int32 × mW) → Prop) (v1 : Int32) (v2 : Option Nat) (v3 : Option Nat) (v4 : Option Nat) (v5 : Int32) (v7 : Int32) (v8 : Int32) (v10 : Int32) (w : mW) (kc : Int32 → Int32 → mW → Option (Int32 × mW)) (hk : ∀ (u5 : Int32) (u8 : Int32) (uw : mW) (e : Int32 × mW), kc u5 u8 uw = some e → P e → mEv X M_L_portText 1 r w' 78 [some (vx 0), some (vi v1), some (vr v2), some (vr v3), some (vr v4), some (vi u5), none, some (vi v7), some (vi u8), none, none, none, none] [] uw) (e : Int32 × mW) (h : f_L_portText_J191 X kc v1 v2 v3 v4 v5 v7 v8 v10 w = some e) (hP : P e) : mEv X M_L_portText 1 r w' 191 [some (vx 0), some (vi v1), some (vr v2), some (vr v3), some (vr v4), some (vi v5), none, some (vi v7), some (vi v8), none, some (vi v10), none, none] [] w := by
  unfold f_L_portText_J191 at h
  refine ev_aload (q := 193) dL_portText_191 rfl rfl ?_
  refine ev_iload (q := 195) dL_portText_193 rfl rfl ?_
  refine ev_iinc (q := 198) (v := v5 + (1 : Int32)) dL_portText_195 rfl (by decide) rfl (by rfl) ?_
  refine ev_bipush (q := 200) (v := (48 : Int32)) dL_portText_198 rfl (by decide) ?_
  refine ev_iload (q := 202) dL_portText_200 rfl rfl ?_
  refine ev_bipush (q := 204) (v := (6 : Int32)) dL_portText_202 rfl (by decide) ?_
  refine ev_idiv (q := 205) dL_portText_204 rfl (by decide) ?_
  refine ev_iadd (q := 206) dL_portText_205 rfl ?_
  replace h := Option.bind_eq_some_iff.mp h; obtain ⟨w19, hw19, h⟩ := h
  refine ev_aS dL_portText_206 hw19 rfl ?_
  refine ev_aload (q := 209) dL_portText_207 rfl rfl ?_
  refine ev_iload (q := 211) dL_portText_209 rfl rfl ?_
  refine ev_iinc (q := 214) (v := (v5 + (1 : Int32)) + (1 : Int32)) dL_portText_211 rfl (by decide) rfl (by rfl) ?_
  refine ev_bipush (q := 216) (v := (48 : Int32)) dL_portText_214 rfl (by decide) ?_
  refine ev_iload (q := 218) dL_portText_216 rfl rfl ?_
  refine ev_bipush (q := 220) (v := (6 : Int32)) dL_portText_218 rfl (by decide) ?_
  refine ev_irem (q := 221) dL_portText_220 rfl (by decide) ?_
  refine ev_iadd (q := 222) dL_portText_221 rfl ?_
  replace h := Option.bind_eq_some_iff.mp h; obtain ⟨w20, hw20, h⟩ := h
  refine ev_aS dL_portText_222 hw20 rfl ?_
  refine ev_iinc (q := 226) (v := v8 + (1 : Int32)) dL_portText_223 rfl (by decide) rfl (by rfl) ?_
  refine ev_goto (q := 78) dL_portText_226 (by decide) ?_
  exact ev_weak _ (mLe_some (mLe_some (mLe_some (mLe_some (mLe_some (mLe_some (mLe_none (mLe_some (mLe_some (mLe_none (mLe_none (mLe_none (mLe_none mLe_nil))))))))))))) (hk ((v5 + (1 : Int32)) + (1 : Int32)) (v8 + (1 : Int32)) w20 _ h hP)
def f_L_portText_J158 (X : mXs) (kc : Int32 → Int32 → Option (Int32)) (v1 : Int32) (v2 : Option Nat) (v3 : Option Nat) (v4 : Option Nat) (v5 : Int32) (v7 : Int32) (v8 : Int32) (v10 : Int32) (v11 : Int32) (v12 : Int32) (w : mW) : Option (Int32) := kc v10 (v12 + (1 : Int32))
set_option maxRecDepth 100000 in
set_option maxHeartbeats 4000000 in
theorem e_L_portText_J158 {X : mXs} {r : Option mV} {w' : mW} (P : (Int32) → Prop) (v1 : Int32) (v2 : Option Nat) (v3 : Option Nat) (v4 : Option Nat) (v5 : Int32) (v7 : Int32) (v8 : Int32) (v10 : Int32) (v11 : Int32) (v12 : Int32) (w : mW) (kc : Int32 → Int32 → Option (Int32)) (hk : ∀ (u10 : Int32) (u12 : Int32) (e : Int32), kc u10 u12 = some e → P e → mEv X M_L_portText 1 r w' 133 [some (vx 0), some (vi v1), some (vr v2), some (vr v3), some (vr v4), some (vi v5), none, some (vi v7), some (vi v8), none, some (vi u10), some (vi v11), some (vi u12)] [] w) (e : Int32) (h : f_L_portText_J158 X kc v1 v2 v3 v4 v5 v7 v8 v10 v11 v12 w = some e) (hP : P e) : mEv X M_L_portText 1 r w' 158 [some (vx 0), some (vi v1), some (vr v2), some (vr v3), some (vr v4), some (vi v5), none, some (vi v7), some (vi v8), none, some (vi v10), some (vi v11), some (vi v12)] [] w := by
  unfold f_L_portText_J158 at h
  refine ev_iinc (q := 161) (v := v12 + (1 : Int32)) dL_portText_158 rfl (by decide) rfl (by rfl) ?_
  refine ev_goto (q := 133) dL_portText_161 (by decide) ?_
  exact ev_weak _ (mLe_some (mLe_some (mLe_some (mLe_some (mLe_some (mLe_some (mLe_none (mLe_some (mLe_some (mLe_none (mLe_some (mLe_some (mLe_some mLe_nil))))))))))))) (hk v10 (v12 + (1 : Int32)) _ h hP)
def f_L_portText_L133 (X : mXs) (v1 : Int32) (v2 : Option Nat) (v3 : Option Nat) (v4 : Option Nat) (v5 : Int32) (v7 : Int32) (v8 : Int32) (v11 : Int32) (w : mW) : Nat → Int32 → Int32 → Option (Int32)
  | 0, _, _ => none
  | n + 1, v10, v12 => if v8 ≤ v12 then (some (v10)) else (Option.bind (aL w v3 v12) fun r21 => if r21 = v10 then (f_L_portText_J158 X (f_L_portText_L133 X v1 v2 v3 v4 v5 v7 v8 v11 w n) v1 v2 v3 v4 v5 v7 v8 ((v10 + (1 : Int32)) - (v10 + (1 : Int32)) / (36 : Int32) * (36 : Int32)) v11 v12 w) else (f_L_portText_J158 X (f_L_portText_L133 X v1 v2 v3 v4 v5 v7 v8 v11 w n) v1 v2 v3 v4 v5 v7 v8 v10 v11 v12 w))
set_option maxRecDepth 100000 in
set_option maxHeartbeats 4000000 in
theorem e_L_portText_L133 {X : mXs} {r : Option mV} {w' : mW} (P : (Int32) → Prop) (v1 : Int32) (v2 : Option Nat) (v3 : Option Nat) (v4 : Option Nat) (v5 : Int32) (v7 : Int32) (v8 : Int32) (v11 : Int32) (w : mW) (hexit : ∀ y, P y → mEv X M_L_portText 1 r w' 164 [some (vx 0), some (vi v1), some (vr v2), some (vr v3), some (vr v4), some (vi v5), none, some (vi v7), some (vi v8), none, some (vi y), some (vi v11), none] [] w) : ∀ (n : Nat) (v10 : Int32) (v12 : Int32) (e : Int32), f_L_portText_L133 X v1 v2 v3 v4 v5 v7 v8 v11 w n v10 v12 = some e → P e → mEv X M_L_portText 1 r w' 133 [some (vx 0), some (vi v1), some (vr v2), some (vr v3), some (vr v4), some (vi v5), none, some (vi v7), some (vi v8), none, some (vi v10), some (vi v11), some (vi v12)] [] w := by
  intro n
  induction n with
  | zero =>
    intro v10 v12 e h hP
    rw [f_L_portText_L133] at h
    cases h
  | succ n hk =>
    intro v10 v12 e h hP
    rw [f_L_portText_L133] at h
    refine ev_iload (q := 135) dL_portText_133 rfl rfl ?_
    refine ev_iload (q := 137) dL_portText_135 rfl rfl ?_
    by_cases hc : v8 ≤ v12
    · rw [if_pos hc] at h
      refine ev_icmp_ge_t (q := 164) dL_portText_137 (by decide) hc ?_
      cases h
      exact ev_weak _ (mLe_some (mLe_some (mLe_some (mLe_some (mLe_some (mLe_some (mLe_none (mLe_some (mLe_some (mLe_none (mLe_some (mLe_some (mLe_none mLe_nil))))))))))))) (hexit _ hP)
    · rw [if_neg hc] at h
      refine ev_icmp_ge_f (q := 140) (t0 := 164) dL_portText_137 (by decide) rfl hc ?_
      refine ev_aload_n (q := 141) dL_portText_140 rfl rfl ?_
      refine ev_iload (q := 143) dL_portText_141 rfl rfl ?_
      replace h := Option.bind_eq_some_iff.mp h; obtain ⟨r21, hr21, h⟩ := h
      refine ev_aL dL_portText_143 hr21 rfl ?_
      refine ev_iload (q := 146) dL_portText_144 rfl rfl ?_
      by_cases hc : r21 = v10
      · rw [if_pos hc] at h
        refine ev_icmp_ne_f (q := 149) (t0 := 158) dL_portText_146 (by decide) rfl hc ?_
        refine ev_iload (q := 151) dL_portText_149 rfl rfl ?_
        refine ev_iconst (q := 152) (v := (1 : Int32)) dL_portText_151 rfl (by decide) ?_
        refine ev_iadd (q := 153) dL_portText_152 rfl ?_
        refine ev_bipush (q := 155) (v := (36 : Int32)) dL_portText_153 rfl (by decide) ?_
        refine ev_irem (q := 156) dL_portText_155 rfl (by decide) ?_
        refine ev_istore (q := 158) dL_portText_156 rfl (by decide) ?_
        exact ev_weak _ (mLe_some (mLe_some (mLe_some (mLe_some (mLe_some (mLe_some (mLe_none (mLe_some (mLe_some (mLe_none (mLe_some (mLe_some (mLe_some mLe_nil))))))))))))) (e_L_portText_J158 P v1 v2 v3 v4 v5 v7 v8 ((v10 + (1 : Int32)) - (v10 + (1 : Int32)) / (36 : Int32) * (36 : Int32)) v11 v12 w _ hk  _ h hP)
      · rw [if_neg hc] at h
        refine ev_icmp_ne_t (q := 158) dL_portText_146 (by decide) hc ?_
        exact ev_weak _ (mLe_some (mLe_some (mLe_some (mLe_some (mLe_some (mLe_some (mLe_none (mLe_some (mLe_some (mLe_none (mLe_some (mLe_some (mLe_some mLe_nil))))))))))))) (e_L_portText_J158 P v1 v2 v3 v4 v5 v7 v8 v10 v11 v12 w _ hk  _ h hP)
def f_L_portText_L123 (X : mXs) (v1 : Int32) (v2 : Option Nat) (v3 : Option Nat) (v4 : Option Nat) (v5 : Int32) (v7 : Int32) (v8 : Int32) (w : mW) : Nat → Int32 → Int32 → Option (Int32)
  | 0, _, _ => none
  | n + 1, v10, v11 => if (6 : Int32) ≤ v11 then (some (v10)) else (Option.bind (f_L_portText_L133 X v1 v2 v3 v4 v5 v7 v8 v11 w mFuel v10 (0 : Int32)) fun e22 => (f_L_portText_L123 X v1 v2 v3 v4 v5 v7 v8 w n) e22 (v11 + (1 : Int32)))
set_option maxRecDepth 100000 in
set_option maxHeartbeats 4000000 in
theorem e_L_portText_L123 {X : mXs} {r : Option mV} {w' : mW} (P : (Int32) → Prop) (v1 : Int32) (v2 : Option Nat) (v3 : Option Nat) (v4 : Option Nat) (v5 : Int32) (v7 : Int32) (v8 : Int32) (w : mW) (hexit : ∀ y, P y → mEv X M_L_portText 1 r w' 170 [some (vx 0), some (vi v1), some (vr v2), some (vr v3), some (vr v4), some (vi v5), none, some (vi v7), some (vi v8), none, some (vi y), none, none] [] w) : ∀ (n : Nat) (v10 : Int32) (v11 : Int32) (e : Int32), f_L_portText_L123 X v1 v2 v3 v4 v5 v7 v8 w n v10 v11 = some e → P e → mEv X M_L_portText 1 r w' 123 [some (vx 0), some (vi v1), some (vr v2), some (vr v3), some (vr v4), some (vi v5), none, some (vi v7), some (vi v8), none, some (vi v10), some (vi v11), none] [] w := by
  intro n
  induction n with
  | zero =>
    intro v10 v11 e h hP
    rw [f_L_portText_L123] at h
    cases h
  | succ n hk =>
    intro v10 v11 e h hP
    rw [f_L_portText_L123] at h
    refine ev_iload (q := 125) dL_portText_123 rfl rfl ?_
    refine ev_bipush (q := 127) (v := (6 : Int32)) dL_portText_125 rfl (by decide) ?_
    by_cases hc : (6 : Int32) ≤ v11
    · rw [if_pos hc] at h
      refine ev_icmp_ge_t (q := 170) dL_portText_127 (by decide) hc ?_
      cases h
      exact ev_weak _ (mLe_some (mLe_some (mLe_some (mLe_some (mLe_some (mLe_some (mLe_none (mLe_some (mLe_some (mLe_none (mLe_some (mLe_none (mLe_none mLe_nil))))))))))))) (hexit _ hP)
    · rw [if_neg hc] at h
      refine ev_icmp_ge_f (q := 130) (t0 := 170) dL_portText_127 (by decide) rfl hc ?_
      refine ev_iconst (q := 131) (v := (0 : Int32)) dL_portText_130 rfl (by decide) ?_
      refine ev_istore (q := 133) dL_portText_131 rfl (by decide) ?_
      replace h := Option.bind_eq_some_iff.mp h; obtain ⟨e22, he22, h⟩ := h
      refine ev_weak _ (mLe_some (mLe_some (mLe_some (mLe_some (mLe_some (mLe_some (mLe_none (mLe_some (mLe_some (mLe_none (mLe_some (mLe_some (mLe_some mLe_nil))))))))))))) (e_L_portText_L133 (fun z => e22 = z) v1 v2 v3 v4 v5 v7 v8 v11 w (fun e22q hq => ?_) mFuel v10 (0 : Int32) _ he22 rfl)
      subst hq
      refine ev_iinc (q := 167) (v := v11 + (1 : Int32)) dL_portText_164 rfl (by decide) rfl (by rfl) ?_
      refine ev_goto (q := 123) dL_portText_167 (by decide) ?_
      exact ev_weak _ (mLe_some (mLe_some (mLe_some (mLe_some (mLe_some (mLe_some (mLe_none (mLe_some (mLe_some (mLe_none (mLe_some (mLe_some (mLe_none mLe_nil))))))))))))) (hk e22 (v11 + (1 : Int32)) _ h hP)
def f_L_portText_L78 (X : mXs) (v1 : Int32) (v2 : Option Nat) (v3 : Option Nat) (v4 : Option Nat) (v7 : Int32) : Nat → Int32 → Int32 → mW → Option (Int32 × mW)
  | 0, _, _, _ => none
  | n + 1, v5, v8, w => Option.bind (aL w v2 (0 : Int32)) fun r23 => if r23 ≤ v8 then (some ((v5, w))) else (Option.bind (f_L_cell X ((v1 + (1 : Int32)) + v8) w) fun r24 => Option.bind (f_L_at r24 v7 w) fun r25 => Option.bind (f_L_at (r24 >>> ((3 : Int32) &&& 31)) v7 w) fun r26 => Option.bind (f_L_portText_L123 X v1 v2 v3 v4 v5 v7 v8 w mFuel (((6 : Int32) * r25) + r26) (0 : Int32)) fun e27 => Option.bind (aS w v3 v8 e27) fun w28 => if v8 ≤ 0 then (f_L_portText_J191 X (f_L_portText_L78 X v1 v2 v3 v4 v7 n) v1 v2 v3 v4 v5 v7 v8 e27 w28) else (Option.bind (aS w28 v4 v5 (44 : Int32)) fun w29 => f_L_portText_J191 X (f_L_portText_L78 X v1 v2 v3 v4 v7 n) v1 v2 v3 v4 (v5 + (1 : Int32)) v7 v8 e27 w29))
set_option maxRecDepth 100000 in
set_option maxHeartbeats 4000000 in
theorem e_L_portText_L78 {X : mXs} {r : Option mV} {w' : mW} (P : (Int32 × mW) → Prop) (v1 : Int32) (v2 : Option Nat) (v3 : Option Nat) (v4 : Option Nat) (v7 : Int32) (hexit : ∀ y, P y → mEv X M_L_portText 1 r w' 229 [some (vx 0), some (vi v1), some (vr v2), some (vr v3), some (vr v4), some (vi y.1), none, none, none, none, none, none, none] [] y.2) : ∀ (n : Nat) (v5 : Int32) (v8 : Int32) (w : mW) (e : Int32 × mW), f_L_portText_L78 X v1 v2 v3 v4 v7 n v5 v8 w = some e → P e → mEv X M_L_portText 1 r w' 78 [some (vx 0), some (vi v1), some (vr v2), some (vr v3), some (vr v4), some (vi v5), none, some (vi v7), some (vi v8), none, none, none, none] [] w := by
  intro n
  induction n with
  | zero =>
    intro v5 v8 w e h hP
    rw [f_L_portText_L78] at h
    cases h
  | succ n hk =>
    intro v5 v8 w e h hP
    rw [f_L_portText_L78] at h
    refine ev_iload (q := 80) dL_portText_78 rfl rfl ?_
    refine ev_aload_n (q := 81) dL_portText_80 rfl rfl ?_
    refine ev_iconst (q := 82) (v := (0 : Int32)) dL_portText_81 rfl (by decide) ?_
    replace h := Option.bind_eq_some_iff.mp h; obtain ⟨r23, hr23, h⟩ := h
    refine ev_aL dL_portText_82 hr23 rfl ?_
    by_cases hc : r23 ≤ v8
    · rw [if_pos hc] at h
      refine ev_icmp_ge_t (q := 229) dL_portText_83 (by decide) hc ?_
      cases h
      exact ev_weak _ (mLe_some (mLe_some (mLe_some (mLe_some (mLe_some (mLe_some (mLe_none (mLe_none (mLe_none (mLe_none (mLe_none (mLe_none (mLe_none mLe_nil))))))))))))) (hexit _ hP)
    · rw [if_neg hc] at h
      refine ev_icmp_ge_f (q := 86) (t0 := 229) dL_portText_83 (by decide) rfl hc ?_
      refine ev_aload_n (q := 87) dL_portText_86 rfl rfl ?_
      refine ev_iload_n (q := 88) dL_portText_87 rfl rfl ?_
      refine ev_iconst (q := 89) (v := (1 : Int32)) dL_portText_88 rfl (by decide) ?_
      refine ev_iadd (q := 90) dL_portText_89 rfl ?_
      refine ev_iload (q := 92) dL_portText_90 rfl rfl ?_
      refine ev_iadd (q := 93) dL_portText_92 rfl ?_
      replace h := Option.bind_eq_some_iff.mp h; obtain ⟨r24, hr24, h⟩ := h
      refine ev_invSX (M1 := M_L_cell) (as := [vx 0, vi ((v1 + (1 : Int32)) + v8)]) dL_portText_93 rfl tw_655 cal_L_cell tw_656 (by decide) rfl rfl (Nat.le_of_ble_eq_true rfl) (met_L_cell X ((v1 + (1 : Int32)) + v8) w _ hr24) ?_
      refine ev_istore (q := 98) dL_portText_96 rfl (by decide) ?_
      refine ev_bipush (q := 100) (v := (6 : Int32)) dL_portText_98 rfl (by decide) ?_
      refine ev_iload (q := 102) dL_portText_100 rfl rfl ?_
      refine ev_iload (q := 104) dL_portText_102 rfl rfl ?_
      replace h := Option.bind_eq_some_iff.mp h; obtain ⟨r25, hr25, h⟩ := h
      refine ev_invS (M1 := M_L_at) (as := [vi r24, vi v7]) dL_portText_104 rfl tw_659 cal_L_at tw_660 (by decide) rfl rfl (Nat.le_of_ble_eq_true rfl) (met_L_at r24 v7 w _ hr25) ?_
      refine ev_imul (q := 108) dL_portText_107 rfl ?_
      refine ev_iload (q := 110) dL_portText_108 rfl rfl ?_
      refine ev_iconst (q := 111) (v := (3 : Int32)) dL_portText_110 rfl (by decide) ?_
      refine ev_ishr (q := 112) dL_portText_111 rfl ?_
      refine ev_iload (q := 114) dL_portText_112 rfl rfl ?_
      replace h := Option.bind_eq_some_iff.mp h; obtain ⟨r26, hr26, h⟩ := h
      refine ev_invS (M1 := M_L_at) (as := [vi (r24 >>> ((3 : Int32) &&& 31)), vi v7]) dL_portText_114 rfl tw_659 cal_L_at tw_660 (by decide) rfl rfl (Nat.le_of_ble_eq_true rfl) (met_L_at (r24 >>> ((3 : Int32) &&& 31)) v7 w _ hr26) ?_
      refine ev_iadd (q := 118) dL_portText_117 rfl ?_
      refine ev_istore (q := 120) dL_portText_118 rfl (by decide) ?_
      refine ev_iconst (q := 121) (v := (0 : Int32)) dL_portText_120 rfl (by decide) ?_
      refine ev_istore (q := 123) dL_portText_121 rfl (by decide) ?_
      replace h := Option.bind_eq_some_iff.mp h; obtain ⟨e27, he27, h⟩ := h
      refine ev_weak _ (mLe_some (mLe_some (mLe_some (mLe_some (mLe_some (mLe_some (mLe_none (mLe_some (mLe_some (mLe_none (mLe_some (mLe_some (mLe_none mLe_nil))))))))))))) (e_L_portText_L123 (fun z => e27 = z) v1 v2 v3 v4 v5 v7 v8 w (fun e27q hq => ?_) mFuel (((6 : Int32) * r25) + r26) (0 : Int32) _ he27 rfl)
      subst hq
      refine ev_aload_n (q := 171) dL_portText_170 rfl rfl ?_
      refine ev_iload (q := 173) dL_portText_171 rfl rfl ?_
      refine ev_iload (q := 175) dL_portText_173 rfl rfl ?_
      replace h := Option.bind_eq_some_iff.mp h; obtain ⟨w28, hw28, h⟩ := h
      refine ev_aS dL_portText_175 hw28 rfl ?_
      refine ev_iload (q := 178) dL_portText_176 rfl rfl ?_
      by_cases hc : v8 ≤ 0
      · rw [if_pos hc] at h
        refine ev_if_le_t (q := 191) dL_portText_178 (by decide) hc ?_
        exact ev_weak _ (mLe_some (mLe_some (mLe_some (mLe_some (mLe_some (mLe_some (mLe_none (mLe_some (mLe_some (mLe_none (mLe_some (mLe_none (mLe_none mLe_nil))))))))))))) (e_L_portText_J191 P v1 v2 v3 v4 v5 v7 v8 e27 w28 _ hk  _ h hP)
      · rw [if_neg hc] at h
        refine ev_if_le_f (q := 181) (t0 := 191) dL_portText_178 (by decide) rfl hc ?_
        refine ev_aload (q := 183) dL_portText_181 rfl rfl ?_
        refine ev_iload (q := 185) dL_portText_183 rfl rfl ?_
        refine ev_iinc (q := 188) (v := v5 + (1 : Int32)) dL_portText_185 rfl (by decide) rfl (by rfl) ?_
        refine ev_bipush (q := 190) (v := (44 : Int32)) dL_portText_188 rfl (by decide) ?_
        replace h := Option.bind_eq_some_iff.mp h; obtain ⟨w29, hw29, h⟩ := h
        refine ev_aS dL_portText_190 hw29 rfl ?_
        exact ev_weak _ (mLe_some (mLe_some (mLe_some (mLe_some (mLe_some (mLe_some (mLe_none (mLe_some (mLe_some (mLe_none (mLe_some (mLe_none (mLe_none mLe_nil))))))))))))) (e_L_portText_J191 P v1 v2 v3 v4 (v5 + (1 : Int32)) v7 v8 e27 w29 _ hk  _ h hP)
def f_L_portText_J73 (X : mXs) (v1 : Int32) (v2 : Option Nat) (v3 : Option Nat) (v4 : Option Nat) (v5 : Int32) (s0 : Int32) (w : mW) : Option (Int32 × mW) := Option.bind (f_L_portText_L78 X v1 v2 v3 v4 s0 mFuel v5 (0 : Int32) w) fun e30 => Option.bind (f_L_portText_L232 X v1 v2 v3 v4 mFuel e30.1 (0 : Int32) e30.2) fun e31 => Option.bind (aS e31.2 v3 (37 : Int32) (60 : Int32)) fun w32 => some ((e31.1, w32))
set_option maxRecDepth 100000 in
set_option maxHeartbeats 4000000 in
theorem e_L_portText_J73 {X : mXs} (v1 : Int32) (v2 : Option Nat) (v3 : Option Nat) (v4 : Option Nat) (v5 : Int32) (s0 : Int32) (w : mW) (res : Int32 × mW) (h : f_L_portText_J73 X v1 v2 v3 v4 v5 s0 w = some res) : mEv X M_L_portText 1 (some (vi res.1)) res.2 73 [some (vx 0), some (vi v1), some (vr v2), some (vr v3), some (vr v4), some (vi v5), none, none, none, none, none, none, none] [vi s0] w := by
  unfold f_L_portText_J73 at h
  refine ev_istore (q := 75) dL_portText_73 rfl (by decide) ?_
  refine ev_iconst (q := 76) (v := (0 : Int32)) dL_portText_75 rfl (by decide) ?_
  refine ev_istore (q := 78) dL_portText_76 rfl (by decide) ?_
  replace h := Option.bind_eq_some_iff.mp h; obtain ⟨e30, he30, h⟩ := h
  refine ev_weak _ (mLe_some (mLe_some (mLe_some (mLe_some (mLe_some (mLe_some (mLe_none (mLe_some (mLe_some (mLe_none (mLe_none (mLe_none (mLe_none mLe_nil))))))))))))) (e_L_portText_L78 (fun z => e30 = z) v1 v2 v3 v4 s0 (fun e30q hq => ?_) mFuel v5 (0 : Int32) w _ he30 rfl)
  subst hq
  refine ev_iconst (q := 230) (v := (0 : Int32)) dL_portText_229 rfl (by decide) ?_
  refine ev_istore (q := 232) dL_portText_230 rfl (by decide) ?_
  replace h := Option.bind_eq_some_iff.mp h; obtain ⟨e31, he31, h⟩ := h
  refine ev_weak _ (mLe_some (mLe_some (mLe_some (mLe_some (mLe_some (mLe_some (mLe_none (mLe_none (mLe_some (mLe_none (mLe_none (mLe_none (mLe_none mLe_nil))))))))))))) (e_L_portText_L232 (fun z => e31 = z) v1 v2 v3 v4 (fun e31q hq => ?_) mFuel e30.1 (0 : Int32) e30.2 _ he31 rfl)
  subst hq
  refine ev_aload_n (q := 428) dL_portText_427 rfl rfl ?_
  refine ev_bipush (q := 430) (v := (37 : Int32)) dL_portText_428 rfl (by decide) ?_
  refine ev_bipush (q := 432) (v := (60 : Int32)) dL_portText_430 rfl (by decide) ?_
  replace h := Option.bind_eq_some_iff.mp h; obtain ⟨w32, hw32, h⟩ := h
  refine ev_aS dL_portText_432 hw32 rfl ?_
  refine ev_iload (q := 435) dL_portText_433 rfl rfl ?_
  cases h
  exact ev_iret dL_portText_435 rfl rfl
def f_L_portText_L13 (X : mXs) (v1 : Int32) (v2 : Option Nat) (v3 : Option Nat) (v4 : Option Nat) (v5 : Int32) (v6 : Int32) : Nat → Int32 → mW → Option (mW)
  | 0, _, _ => none
  | n + 1, v7, w => if (39 : Int32) ≤ v7 then (some (w)) else (Option.bind (aS w v3 v7 (0 : Int32)) fun w33 => (f_L_portText_L13 X v1 v2 v3 v4 v5 v6 n) (v7 + (1 : Int32)) w33)
set_option maxRecDepth 100000 in
set_option maxHeartbeats 4000000 in
theorem e_L_portText_L13 {X : mXs} {r : Option mV} {w' : mW} (P : (mW) → Prop) (v1 : Int32) (v2 : Option Nat) (v3 : Option Nat) (v4 : Option Nat) (v5 : Int32) (v6 : Int32) (hexit : ∀ y, P y → mEv X M_L_portText 1 r w' 31 [some (vx 0), some (vi v1), some (vr v2), some (vr v3), some (vr v4), some (vi v5), some (vi v6), none, none, none, none, none, none] [] y) : ∀ (n : Nat) (v7 : Int32) (w : mW) (e : mW), f_L_portText_L13 X v1 v2 v3 v4 v5 v6 n v7 w = some e → P e → mEv X M_L_portText 1 r w' 13 [some (vx 0), some (vi v1), some (vr v2), some (vr v3), some (vr v4), some (vi v5), some (vi v6), some (vi v7), none, none, none, none, none] [] w := by
  intro n
  induction n with
  | zero =>
    intro v7 w e h hP
    rw [f_L_portText_L13] at h
    cases h
  | succ n hk =>
    intro v7 w e h hP
    rw [f_L_portText_L13] at h
    refine ev_iload (q := 15) dL_portText_13 rfl rfl ?_
    refine ev_bipush (q := 17) (v := (39 : Int32)) dL_portText_15 rfl (by decide) ?_
    by_cases hc : (39 : Int32) ≤ v7
    · rw [if_pos hc] at h
      refine ev_icmp_ge_t (q := 31) dL_portText_17 (by decide) hc ?_
      cases h
      exact ev_weak _ (mLe_some (mLe_some (mLe_some (mLe_some (mLe_some (mLe_some (mLe_some (mLe_none (mLe_none (mLe_none (mLe_none (mLe_none (mLe_none mLe_nil))))))))))))) (hexit _ hP)
    · rw [if_neg hc] at h
      refine ev_icmp_ge_f (q := 20) (t0 := 31) dL_portText_17 (by decide) rfl hc ?_
      refine ev_aload_n (q := 21) dL_portText_20 rfl rfl ?_
      refine ev_iload (q := 23) dL_portText_21 rfl rfl ?_
      refine ev_iconst (q := 24) (v := (0 : Int32)) dL_portText_23 rfl (by decide) ?_
      replace h := Option.bind_eq_some_iff.mp h; obtain ⟨w33, hw33, h⟩ := h
      refine ev_aS dL_portText_24 hw33 rfl ?_
      refine ev_iinc (q := 28) (v := v7 + (1 : Int32)) dL_portText_25 rfl (by decide) rfl (by rfl) ?_
      refine ev_goto (q := 13) dL_portText_28 (by decide) ?_
      exact ev_weak _ (mLe_some (mLe_some (mLe_some (mLe_some (mLe_some (mLe_some (mLe_some (mLe_some (mLe_none (mLe_none (mLe_none (mLe_none (mLe_none mLe_nil))))))))))))) (hk (v7 + (1 : Int32)) w33 _ h hP)
def f_L_portText (X : mXs) (v1 : Int32) (v2 : Option Nat) (v3 : Option Nat) (v4 : Option Nat) (w : mW) : Option (Int32 × mW) := Option.bind (f_L_cell X v1 w) fun r34 => Option.bind (f_L_portText_L13 X v1 v2 v3 v4 (0 : Int32) r34 mFuel (0 : Int32) w) fun e35 => Option.bind (f_L_at r34 (6 : Int32) e35) fun r36 => Option.bind (aS e35 v2 (0 : Int32) ((1 : Int32) + r36)) fun w37 => Option.bind (f_L_at (r34 >>> ((3 : Int32) &&& 31)) (4 : Int32) w37) fun r38 => Option.bind (aS w37 v2 (1 : Int32) ((1 : Int32) + r38)) fun w39 => Option.bind (f_L_at (r34 >>> ((5 : Int32) &&& 31)) (2 : Int32) w39) fun r40 => if r40 = 0 then (f_L_portText_J73 X v1 v2 v3 v4 (0 : Int32) (6 : Int32) w39) else (f_L_portText_J73 X v1 v2 v3 v4 (0 : Int32) (3 : Int32) w39)
set_option maxRecDepth 100000 in
set_option maxHeartbeats 4000000 in
theorem met_L_portText (X : mXs) (v1 : Int32) (v2 : Option Nat) (v3 : Option Nat) (v4 : Option Nat) (w : mW) (res : Int32 × mW) (h : f_L_portText X v1 v2 v3 v4 w = some res) : mMetX X M_L_portText 1 [vx 0, vi v1, vr v2, vr v3, vr v4] w (some (vi res.1)) res.2 := by
  refine ev_metX (n := 8) (by decide) rfl ?_
  unfold f_L_portText at h
  show mEv X M_L_portText 1 _ _ 0 [some (vx 0), some (vi v1), some (vr v2), some (vr v3), some (vr v4), none, none, none, none, none, none, none, none] [] w
  refine ev_iconst (q := 1) (v := (0 : Int32)) dL_portText_0 rfl (by decide) ?_
  refine ev_istore (q := 3) dL_portText_1 rfl (by decide) ?_
  refine ev_aload_n (q := 4) dL_portText_3 rfl rfl ?_
  refine ev_iload_n (q := 5) dL_portText_4 rfl rfl ?_
  replace h := Option.bind_eq_some_iff.mp h; obtain ⟨r34, hr34, h⟩ := h
  refine ev_invSX (M1 := M_L_cell) (as := [vx 0, vi v1]) dL_portText_5 rfl tw_655 cal_L_cell tw_656 (by decide) rfl rfl (Nat.le_of_ble_eq_true rfl) (met_L_cell X v1 w _ hr34) ?_
  refine ev_istore (q := 10) dL_portText_8 rfl (by decide) ?_
  refine ev_iconst (q := 11) (v := (0 : Int32)) dL_portText_10 rfl (by decide) ?_
  refine ev_istore (q := 13) dL_portText_11 rfl (by decide) ?_
  replace h := Option.bind_eq_some_iff.mp h; obtain ⟨e35, he35, h⟩ := h
  refine ev_weak _ (mLe_some (mLe_some (mLe_some (mLe_some (mLe_some (mLe_some (mLe_some (mLe_some (mLe_none (mLe_none (mLe_none (mLe_none (mLe_none mLe_nil))))))))))))) (e_L_portText_L13 (fun z => e35 = z) v1 v2 v3 v4 (0 : Int32) r34 (fun e35q hq => ?_) mFuel (0 : Int32) w _ he35 rfl)
  subst hq
  refine ev_aload_n (q := 32) dL_portText_31 rfl rfl ?_
  refine ev_iconst (q := 33) (v := (0 : Int32)) dL_portText_32 rfl (by decide) ?_
  refine ev_iconst (q := 34) (v := (1 : Int32)) dL_portText_33 rfl (by decide) ?_
  refine ev_iload (q := 36) dL_portText_34 rfl rfl ?_
  refine ev_bipush (q := 38) (v := (6 : Int32)) dL_portText_36 rfl (by decide) ?_
  replace h := Option.bind_eq_some_iff.mp h; obtain ⟨r36, hr36, h⟩ := h
  refine ev_invS (M1 := M_L_at) (as := [vi r34, vi ((6 : Int32))]) dL_portText_38 rfl tw_659 cal_L_at tw_660 (by decide) rfl rfl (Nat.le_of_ble_eq_true rfl) (met_L_at r34 (6 : Int32) e35 _ hr36) ?_
  refine ev_iadd (q := 42) dL_portText_41 rfl ?_
  replace h := Option.bind_eq_some_iff.mp h; obtain ⟨w37, hw37, h⟩ := h
  refine ev_aS dL_portText_42 hw37 rfl ?_
  refine ev_aload_n (q := 44) dL_portText_43 rfl rfl ?_
  refine ev_iconst (q := 45) (v := (1 : Int32)) dL_portText_44 rfl (by decide) ?_
  refine ev_iconst (q := 46) (v := (1 : Int32)) dL_portText_45 rfl (by decide) ?_
  refine ev_iload (q := 48) dL_portText_46 rfl rfl ?_
  refine ev_iconst (q := 49) (v := (3 : Int32)) dL_portText_48 rfl (by decide) ?_
  refine ev_ishr (q := 50) dL_portText_49 rfl ?_
  refine ev_iconst (q := 51) (v := (4 : Int32)) dL_portText_50 rfl (by decide) ?_
  replace h := Option.bind_eq_some_iff.mp h; obtain ⟨r38, hr38, h⟩ := h
  refine ev_invS (M1 := M_L_at) (as := [vi (r34 >>> ((3 : Int32) &&& 31)), vi ((4 : Int32))]) dL_portText_51 rfl tw_659 cal_L_at tw_660 (by decide) rfl rfl (Nat.le_of_ble_eq_true rfl) (met_L_at (r34 >>> ((3 : Int32) &&& 31)) (4 : Int32) w37 _ hr38) ?_
  refine ev_iadd (q := 55) dL_portText_54 rfl ?_
  replace h := Option.bind_eq_some_iff.mp h; obtain ⟨w39, hw39, h⟩ := h
  refine ev_aS dL_portText_55 hw39 rfl ?_
  refine ev_iload (q := 58) dL_portText_56 rfl rfl ?_
  refine ev_iconst (q := 59) (v := (5 : Int32)) dL_portText_58 rfl (by decide) ?_
  refine ev_ishr (q := 60) dL_portText_59 rfl ?_
  refine ev_iconst (q := 61) (v := (2 : Int32)) dL_portText_60 rfl (by decide) ?_
  replace h := Option.bind_eq_some_iff.mp h; obtain ⟨r40, hr40, h⟩ := h
  refine ev_invS (M1 := M_L_at) (as := [vi (r34 >>> ((5 : Int32) &&& 31)), vi ((2 : Int32))]) dL_portText_61 rfl tw_659 cal_L_at tw_660 (by decide) rfl rfl (Nat.le_of_ble_eq_true rfl) (met_L_at (r34 >>> ((5 : Int32) &&& 31)) (2 : Int32) w39 _ hr40) ?_
  by_cases hc : r40 = 0
  · rw [if_pos hc] at h
    refine ev_if_ne_f (q := 67) (t0 := 72) dL_portText_64 (by decide) rfl hc ?_
    refine ev_bipush (q := 69) (v := (6 : Int32)) dL_portText_67 rfl (by decide) ?_
    refine ev_goto (q := 73) dL_portText_69 (by decide) ?_
    exact ev_weak _ (mLe_some (mLe_some (mLe_some (mLe_some (mLe_some (mLe_some (mLe_none (mLe_none (mLe_none (mLe_none (mLe_none (mLe_none (mLe_none mLe_nil))))))))))))) (e_L_portText_J73 v1 v2 v3 v4 (0 : Int32) (6 : Int32) w39 _ h)
  · rw [if_neg hc] at h
    refine ev_if_ne_t (q := 72) dL_portText_64 (by decide) hc ?_
    refine ev_iconst (q := 73) (v := (3 : Int32)) dL_portText_72 rfl (by decide) ?_
    exact ev_weak _ (mLe_some (mLe_some (mLe_some (mLe_some (mLe_some (mLe_some (mLe_none (mLe_none (mLe_none (mLe_none (mLe_none (mLe_none (mLe_none mLe_nil))))))))))))) (e_L_portText_J73 v1 v2 v3 v4 (0 : Int32) (3 : Int32) w39 _ h)
