def f_X11_kindBy (v0 : Int32) (w : mW) : Option (Int32) := if v0 = 104 then (some ((3 : Int32))) else (if v0 = 108 then (some ((1 : Int32))) else (if v0 = 109 then (some ((4 : Int32))) else (if v0 = 116 then (some ((0 : Int32))) else (if v0 = 119 then (some ((2 : Int32))) else (some ((-1 : Int32)))))))
set_option maxRecDepth 100000 in
set_option maxHeartbeats 4000000 in
theorem met_X11_kindBy (v0 : Int32) (w : mW) (res : Int32) (h : f_X11_kindBy v0 w = some res) : mMet M_X11_kindBy 0 [vi v0] w (some (vi res)) w := by
  refine ev_met (n := 0) (by decide) rfl fun X => ?_
  unfold f_X11_kindBy at h
  show mEv X M_X11_kindBy 0 _ _ 0 [some (vi v0)] [] w
  refine ev_iload_n (q := 1) dX11_kindBy_0 rfl rfl ?_
  by_cases hc104 : v0 = 104
  · rw [if_pos hc104] at h
    refine ev_lookup (q := 58) (off := 57) dX11_kindBy_1 (by decide) (by rw [hc104]; rfl) (by decide) ?_
    refine ev_iconst (q := 59) (v := (3 : Int32)) dX11_kindBy_58 rfl (by decide) ?_
    cases h
    exact ev_iret dX11_kindBy_59 rfl rfl
  · rw [if_neg hc104] at h
    by_cases hc108 : v0 = 108
    · rw [if_pos hc108] at h
      refine ev_lookup (q := 54) (off := 53) dX11_kindBy_1 (by decide) (by rw [hc108]; rfl) (by decide) ?_
      refine ev_iconst (q := 55) (v := (1 : Int32)) dX11_kindBy_54 rfl (by decide) ?_
      cases h
      exact ev_iret dX11_kindBy_55 rfl rfl
    · rw [if_neg hc108] at h
      by_cases hc109 : v0 = 109
      · rw [if_pos hc109] at h
        refine ev_lookup (q := 60) (off := 59) dX11_kindBy_1 (by decide) (by rw [hc109]; rfl) (by decide) ?_
        refine ev_iconst (q := 61) (v := (4 : Int32)) dX11_kindBy_60 rfl (by decide) ?_
        cases h
        exact ev_iret dX11_kindBy_61 rfl rfl
      · rw [if_neg hc109] at h
        by_cases hc116 : v0 = 116
        · rw [if_pos hc116] at h
          refine ev_lookup (q := 52) (off := 51) dX11_kindBy_1 (by decide) (by rw [hc116]; rfl) (by decide) ?_
          refine ev_iconst (q := 53) (v := (0 : Int32)) dX11_kindBy_52 rfl (by decide) ?_
          cases h
          exact ev_iret dX11_kindBy_53 rfl rfl
        · rw [if_neg hc116] at h
          by_cases hc119 : v0 = 119
          · rw [if_pos hc119] at h
            refine ev_lookup (q := 56) (off := 55) dX11_kindBy_1 (by decide) (by rw [hc119]; rfl) (by decide) ?_
            refine ev_iconst (q := 57) (v := (2 : Int32)) dX11_kindBy_56 rfl (by decide) ?_
            cases h
            exact ev_iret dX11_kindBy_57 rfl rfl
          · rw [if_neg hc119] at h
            refine ev_lookup (q := 62) (off := 61) dX11_kindBy_1 (by decide) (by have z104 := mNe (z := 104) (by decide) hc104; have z108 := mNe (z := 108) (by decide) hc108; have z109 := mNe (z := 109) (by decide) hc109; have z116 := mNe (z := 116) (by decide) hc116; have z119 := mNe (z := 119) (by decide) hc119; simp only [lookupswitch.offset]; rw [if_neg (fun e => z104 e.symm)]; rw [if_neg (fun e => z108 e.symm)]; rw [if_neg (fun e => z109 e.symm)]; rw [if_neg (fun e => z116 e.symm)]; rw [if_neg (fun e => z119 e.symm)]) (by decide) ?_
            refine ev_iconst (q := 63) (v := (-1 : Int32)) dX11_kindBy_62 rfl (by decide) ?_
            cases h
            exact ev_iret dX11_kindBy_63 rfl rfl
def f_X11_lacks_J12 (s0 : Int32) (w : mW) : Option (Int32) := if s0 = 0 ∨ s0 = 1 then some (s0) else none
set_option maxRecDepth 100000 in
set_option maxHeartbeats 4000000 in
theorem e_X11_lacks_J12 {X : mXs} (s0 : Int32) (w : mW) (res : Int32) (h : f_X11_lacks_J12 s0 w = some res) : mEv X M_X11_lacks 0 (some (vi res)) w 12 [none] [vi s0] w := by
  unfold f_X11_lacks_J12 at h
  by_cases hz : s0 = 0 ∨ s0 = 1
  · rw [if_pos hz] at h
    cases h
    exact ev_zret dX11_lacks_12 rfl hz
  · rw [if_neg hz] at h
    cases h
def f_X11_lacks (o : Nat) (w : mW) : Option (Int32) := Option.bind (gI w (some o) 11 3) fun r1 => if r1 = 0 then (f_X11_lacks_J12 (1 : Int32) w) else (f_X11_lacks_J12 (0 : Int32) w)
set_option maxRecDepth 100000 in
set_option maxHeartbeats 4000000 in
theorem met_X11_lacks (o : Nat) (w : mW) (res : Int32) (h : f_X11_lacks o w = some res) : mMet M_X11_lacks 0 [vr ((some o))] w (some (vi res)) w := by
  refine ev_met (n := 0) (by decide) rfl fun X => ?_
  unfold f_X11_lacks at h
  show mEv X M_X11_lacks 0 _ _ 0 [some (vr ((some o)))] [] w
  refine ev_aload_n (q := 1) dX11_lacks_0 rfl rfl ?_
  replace h := Option.bind_eq_some_iff.mp h; obtain ⟨r1, hr1, h⟩ := h
  refine ev_gI dX11_lacks_1 fl_X11_116 hr1 rfl ?_
  by_cases hc : r1 = 0
  · rw [if_pos hc] at h
    refine ev_if_ne_f (q := 7) (t0 := 11) dX11_lacks_4 (by decide) rfl hc ?_
    refine ev_iconst (q := 8) (v := (1 : Int32)) dX11_lacks_7 rfl (by decide) ?_
    refine ev_goto (q := 12) dX11_lacks_8 (by decide) ?_
    exact ev_weak _ (mLe_none mLe_nil) (e_X11_lacks_J12 (1 : Int32) w _ h)
  · rw [if_neg hc] at h
    refine ev_if_ne_t (q := 11) dX11_lacks_4 (by decide) hc ?_
    refine ev_iconst (q := 12) (v := (0 : Int32)) dX11_lacks_11 rfl (by decide) ?_
    exact ev_weak _ (mLe_none mLe_nil) (e_X11_lacks_J12 (0 : Int32) w _ h)
def f_X11_ones_L4 (v0 : Int32) (w : mW) : Nat → Int32 → Int32 → Option (Int32)
  | 0, _, _ => none
  | n + 1, v1, v2 => if (6 : Int32) ≤ v2 then (some (v1)) else ((f_X11_ones_L4 v0 w n) (v1 + ((v0 >>> (v2 &&& 31)) &&& (1 : Int32))) (v2 + (1 : Int32)))
set_option maxRecDepth 100000 in
set_option maxHeartbeats 4000000 in
theorem e_X11_ones_L4 {X : mXs} {r : Option mV} {w' : mW} (P : (Int32) → Prop) (v0 : Int32) (w : mW) (hexit : ∀ y, P y → mEv X M_X11_ones 0 r w' 24 [none, some (vi y), none] [] w) : ∀ (n : Nat) (v1 : Int32) (v2 : Int32) (e : Int32), f_X11_ones_L4 v0 w n v1 v2 = some e → P e → mEv X M_X11_ones 0 r w' 4 [some (vi v0), some (vi v1), some (vi v2)] [] w := by
  intro n
  induction n with
  | zero =>
    intro v1 v2 e h hP
    rw [f_X11_ones_L4] at h
    cases h
  | succ n hk =>
    intro v1 v2 e h hP
    rw [f_X11_ones_L4] at h
    refine ev_iload_n (q := 5) dX11_ones_4 rfl rfl ?_
    refine ev_bipush (q := 7) (v := (6 : Int32)) dX11_ones_5 rfl (by decide) ?_
    by_cases hc : (6 : Int32) ≤ v2
    · rw [if_pos hc] at h
      refine ev_icmp_ge_t (q := 24) dX11_ones_7 (by decide) hc ?_
      cases h
      exact ev_weak _ (mLe_none (mLe_some (mLe_none mLe_nil))) (hexit _ hP)
    · rw [if_neg hc] at h
      refine ev_icmp_ge_f (q := 10) (t0 := 24) dX11_ones_7 (by decide) rfl hc ?_
      refine ev_iload_n (q := 11) dX11_ones_10 rfl rfl ?_
      refine ev_iload_n (q := 12) dX11_ones_11 rfl rfl ?_
      refine ev_iload_n (q := 13) dX11_ones_12 rfl rfl ?_
      refine ev_ishr (q := 14) dX11_ones_13 rfl ?_
      refine ev_iconst (q := 15) (v := (1 : Int32)) dX11_ones_14 rfl (by decide) ?_
      refine ev_iand (q := 16) dX11_ones_15 rfl ?_
      refine ev_iadd (q := 17) dX11_ones_16 rfl ?_
      refine ev_istore_n (q := 18) dX11_ones_17 rfl (by decide) ?_
      refine ev_iinc (q := 21) (v := v2 + (1 : Int32)) dX11_ones_18 rfl (by decide) rfl (by rfl) ?_
      refine ev_goto (q := 4) dX11_ones_21 (by decide) ?_
      exact ev_weak _ (mLe_some (mLe_some (mLe_some mLe_nil))) (hk (v1 + ((v0 >>> (v2 &&& 31)) &&& (1 : Int32))) (v2 + (1 : Int32)) _ h hP)
def f_X11_ones (v0 : Int32) (w : mW) : Option (Int32) := Option.bind (f_X11_ones_L4 v0 w mFuel (0 : Int32) (0 : Int32)) fun e1 => some (e1)
set_option maxRecDepth 100000 in
set_option maxHeartbeats 4000000 in
theorem met_X11_ones (v0 : Int32) (w : mW) (res : Int32) (h : f_X11_ones v0 w = some res) : mMet M_X11_ones 0 [vi v0] w (some (vi res)) w := by
  refine ev_met (n := 2) (by decide) rfl fun X => ?_
  unfold f_X11_ones at h
  show mEv X M_X11_ones 0 _ _ 0 [some (vi v0), none, none] [] w
  refine ev_iconst (q := 1) (v := (0 : Int32)) dX11_ones_0 rfl (by decide) ?_
  refine ev_istore_n (q := 2) dX11_ones_1 rfl (by decide) ?_
  refine ev_iconst (q := 3) (v := (0 : Int32)) dX11_ones_2 rfl (by decide) ?_
  refine ev_istore_n (q := 4) dX11_ones_3 rfl (by decide) ?_
  replace h := Option.bind_eq_some_iff.mp h; obtain ⟨e1, he1, h⟩ := h
  refine ev_weak _ (mLe_some (mLe_some (mLe_some mLe_nil))) (e_X11_ones_L4 (fun z => e1 = z) v0 w (fun e1q hq => ?_) mFuel (0 : Int32) (0 : Int32) _ he1 rfl)
  subst hq
  refine ev_iload_n (q := 25) dX11_ones_24 rfl rfl ?_
  cases h
  exact ev_iret dX11_ones_25 rfl rfl
def f_X11_open_J29 (kc : Int32 → Int32 → Option (Int32)) (o : Nat) (v2 : Int32) (s0 : Int32) (s1 : Int32) (w : mW) : Option (Int32) := kc (s0 ||| s1) (v2 + (1 : Int32))
set_option maxRecDepth 100000 in
set_option maxHeartbeats 4000000 in
theorem e_X11_open_J29 {X : mXs} {r : Option mV} {w' : mW} (P : (Int32) → Prop) (o : Nat) (v2 : Int32) (s0 : Int32) (s1 : Int32) (w : mW) (kc : Int32 → Int32 → Option (Int32)) (hk : ∀ (u1 : Int32) (u2 : Int32) (e : Int32), kc u1 u2 = some e → P e → mEv X M_X11_open 0 r w' 4 [some (vr ((some o))), some (vi u1), some (vi u2)] [] w) (e : Int32) (h : f_X11_open_J29 kc o v2 s0 s1 w = some e) (hP : P e) : mEv X M_X11_open 0 r w' 29 [some (vr ((some o))), none, some (vi v2)] [vi s1, vi s0] w := by
  unfold f_X11_open_J29 at h
  refine ev_ior (q := 30) dX11_open_29 rfl ?_
  refine ev_istore_n (q := 31) dX11_open_30 rfl (by decide) ?_
  refine ev_iinc (q := 34) (v := v2 + (1 : Int32)) dX11_open_31 rfl (by decide) rfl (by rfl) ?_
  refine ev_goto (q := 4) dX11_open_34 (by decide) ?_
  exact ev_weak _ (mLe_some (mLe_some (mLe_some mLe_nil))) (hk (s0 ||| s1) (v2 + (1 : Int32)) _ h hP)
def f_X11_open_L4 (o : Nat) (w : mW) : Nat → Int32 → Int32 → Option (Int32)
  | 0, _, _ => none
  | n + 1, v1, v2 => Option.bind (gI w (some o) 11 3) fun r1 => if r1 ≤ v2 then (some (v1)) else (Option.bind (gR w (some o) 11 11) fun r2 => Option.bind (aL w r2 v2) fun r3 => if r3 = 0 then (f_X11_open_J29 (f_X11_open_L4 o w n) o v2 v1 ((1 : Int32) <<< (v2 &&& 31)) w) else (f_X11_open_J29 (f_X11_open_L4 o w n) o v2 v1 (0 : Int32) w))
set_option maxRecDepth 100000 in
set_option maxHeartbeats 4000000 in
theorem e_X11_open_L4 {X : mXs} {r : Option mV} {w' : mW} (P : (Int32) → Prop) (o : Nat) (w : mW) (hexit : ∀ y, P y → mEv X M_X11_open 0 r w' 37 [none, some (vi y), none] [] w) : ∀ (n : Nat) (v1 : Int32) (v2 : Int32) (e : Int32), f_X11_open_L4 o w n v1 v2 = some e → P e → mEv X M_X11_open 0 r w' 4 [some (vr ((some o))), some (vi v1), some (vi v2)] [] w := by
  intro n
  induction n with
  | zero =>
    intro v1 v2 e h hP
    rw [f_X11_open_L4] at h
    cases h
  | succ n hk =>
    intro v1 v2 e h hP
    rw [f_X11_open_L4] at h
    refine ev_iload_n (q := 5) dX11_open_4 rfl rfl ?_
    refine ev_aload_n (q := 6) dX11_open_5 rfl rfl ?_
    replace h := Option.bind_eq_some_iff.mp h; obtain ⟨r1, hr1, h⟩ := h
    refine ev_gI dX11_open_6 fl_X11_116 hr1 rfl ?_
    by_cases hc : r1 ≤ v2
    · rw [if_pos hc] at h
      refine ev_icmp_ge_t (q := 37) dX11_open_9 (by decide) hc ?_
      cases h
      exact ev_weak _ (mLe_none (mLe_some (mLe_none mLe_nil))) (hexit _ hP)
    · rw [if_neg hc] at h
      refine ev_icmp_ge_f (q := 12) (t0 := 37) dX11_open_9 (by decide) rfl hc ?_
      refine ev_iload_n (q := 13) dX11_open_12 rfl rfl ?_
      refine ev_aload_n (q := 14) dX11_open_13 rfl rfl ?_
      replace h := Option.bind_eq_some_iff.mp h; obtain ⟨r2, hr2, h⟩ := h
      refine ev_gR dX11_open_14 fl_X11_16 hr2 rfl ?_
      refine ev_iload_n (q := 18) dX11_open_17 rfl rfl ?_
      replace h := Option.bind_eq_some_iff.mp h; obtain ⟨r3, hr3, h⟩ := h
      refine ev_aL dX11_open_18 hr3 rfl ?_
      by_cases hc : r3 = 0
      · rw [if_pos hc] at h
        refine ev_if_ne_f (q := 22) (t0 := 28) dX11_open_19 (by decide) rfl hc ?_
        refine ev_iconst (q := 23) (v := (1 : Int32)) dX11_open_22 rfl (by decide) ?_
        refine ev_iload_n (q := 24) dX11_open_23 rfl rfl ?_
        refine ev_ishl (q := 25) dX11_open_24 rfl ?_
        refine ev_goto (q := 29) dX11_open_25 (by decide) ?_
        exact ev_weak _ (mLe_some (mLe_none (mLe_some mLe_nil))) (e_X11_open_J29 P o v2 v1 ((1 : Int32) <<< (v2 &&& 31)) w _ hk  _ h hP)
      · rw [if_neg hc] at h
        refine ev_if_ne_t (q := 28) dX11_open_19 (by decide) hc ?_
        refine ev_iconst (q := 29) (v := (0 : Int32)) dX11_open_28 rfl (by decide) ?_
        exact ev_weak _ (mLe_some (mLe_none (mLe_some mLe_nil))) (e_X11_open_J29 P o v2 v1 (0 : Int32) w _ hk  _ h hP)
def f_X11_open (o : Nat) (w : mW) : Option (Int32) := Option.bind (f_X11_open_L4 o w mFuel (0 : Int32) (0 : Int32)) fun e4 => some (e4)
set_option maxRecDepth 100000 in
set_option maxHeartbeats 4000000 in
theorem met_X11_open (o : Nat) (w : mW) (res : Int32) (h : f_X11_open o w = some res) : mMet M_X11_open 0 [vr ((some o))] w (some (vi res)) w := by
  refine ev_met (n := 2) (by decide) rfl fun X => ?_
  unfold f_X11_open at h
  show mEv X M_X11_open 0 _ _ 0 [some (vr ((some o))), none, none] [] w
  refine ev_iconst (q := 1) (v := (0 : Int32)) dX11_open_0 rfl (by decide) ?_
  refine ev_istore_n (q := 2) dX11_open_1 rfl (by decide) ?_
  refine ev_iconst (q := 3) (v := (0 : Int32)) dX11_open_2 rfl (by decide) ?_
  refine ev_istore_n (q := 4) dX11_open_3 rfl (by decide) ?_
  replace h := Option.bind_eq_some_iff.mp h; obtain ⟨e4, he4, h⟩ := h
  refine ev_weak _ (mLe_some (mLe_some (mLe_some mLe_nil))) (e_X11_open_L4 (fun z => e4 = z) o w (fun e4q hq => ?_) mFuel (0 : Int32) (0 : Int32) _ he4 rfl)
  subst hq
  refine ev_iload_n (q := 38) dX11_open_37 rfl rfl ?_
  cases h
  exact ev_iret dX11_open_38 rfl rfl
def f_X11_say (o : Nat) (v1 : Int64) (w : mW) : Option (mW) := Option.bind (gL w (some o) 11 39) fun r1 => Option.bind (pL w (some o) 11 39 (((31 : Int64) * r1) + v1)) fun w2 => some (w2)
set_option maxRecDepth 100000 in
set_option maxHeartbeats 4000000 in
theorem met_X11_say (o : Nat) (v1 : Int64) (w : mW) (res : mW) (h : f_X11_say o v1 w = some res) : mMet M_X11_say 0 [vr ((some o)), vl v1] w none res := by
  refine ev_met (n := 0) (by decide) rfl fun X => ?_
  unfold f_X11_say at h
  show mEv X M_X11_say 0 _ _ 0 [some (vr ((some o))), some (vl v1), none] [] w
  refine ev_aload_n (q := 1) dX11_say_0 rfl rfl ?_
  refine ev_ldc2 (q := 4) (v := (31 : Int64)) dX11_say_1 rfl tw_1221 ?_
  refine ev_aload_n (q := 5) dX11_say_4 rfl rfl ?_
  replace h := Option.bind_eq_some_iff.mp h; obtain ⟨r1, hr1, h⟩ := h
  refine ev_gL dX11_say_5 fl_X11_292 hr1 rfl ?_
  refine ev_lmul (q := 9) dX11_say_8 rfl ?_
  refine ev_lload_n (q := 10) dX11_say_9 rfl rfl ?_
  refine ev_ladd (q := 11) dX11_say_10 rfl ?_
  replace h := Option.bind_eq_some_iff.mp h; obtain ⟨w2, hw2, h⟩ := h
  refine ev_pL dX11_say_11 fp_X11_292 hw2 rfl ?_
  cases h
  exact ev_vret dX11_say_14 rfl
def f_X11_sumOf_L4 (o : Nat) (v1 : Option Nat) (w : mW) : Nat → Int32 → Int32 → Option (Int32)
  | 0, _, _ => none
  | n + 1, v2, v3 => Option.bind (gI w (some o) 11 3) fun r1 => if r1 ≤ v3 then (some (v2)) else (Option.bind (aL w v1 v3) fun r2 => (f_X11_sumOf_L4 o v1 w n) (v2 + r2) (v3 + (1 : Int32)))
set_option maxRecDepth 100000 in
set_option maxHeartbeats 4000000 in
theorem e_X11_sumOf_L4 {X : mXs} {r : Option mV} {w' : mW} (P : (Int32) → Prop) (o : Nat) (v1 : Option Nat) (w : mW) (hexit : ∀ y, P y → mEv X M_X11_sumOf 0 r w' 24 [none, none, some (vi y), none] [] w) : ∀ (n : Nat) (v2 : Int32) (v3 : Int32) (e : Int32), f_X11_sumOf_L4 o v1 w n v2 v3 = some e → P e → mEv X M_X11_sumOf 0 r w' 4 [some (vr ((some o))), some (vr v1), some (vi v2), some (vi v3)] [] w := by
  intro n
  induction n with
  | zero =>
    intro v2 v3 e h hP
    rw [f_X11_sumOf_L4] at h
    cases h
  | succ n hk =>
    intro v2 v3 e h hP
    rw [f_X11_sumOf_L4] at h
    refine ev_iload_n (q := 5) dX11_sumOf_4 rfl rfl ?_
    refine ev_aload_n (q := 6) dX11_sumOf_5 rfl rfl ?_
    replace h := Option.bind_eq_some_iff.mp h; obtain ⟨r1, hr1, h⟩ := h
    refine ev_gI dX11_sumOf_6 fl_X11_116 hr1 rfl ?_
    by_cases hc : r1 ≤ v3
    · rw [if_pos hc] at h
      refine ev_icmp_ge_t (q := 24) dX11_sumOf_9 (by decide) hc ?_
      cases h
      exact ev_weak _ (mLe_none (mLe_none (mLe_some (mLe_none mLe_nil)))) (hexit _ hP)
    · rw [if_neg hc] at h
      refine ev_icmp_ge_f (q := 12) (t0 := 24) dX11_sumOf_9 (by decide) rfl hc ?_
      refine ev_iload_n (q := 13) dX11_sumOf_12 rfl rfl ?_
      refine ev_aload_n (q := 14) dX11_sumOf_13 rfl rfl ?_
      refine ev_iload_n (q := 15) dX11_sumOf_14 rfl rfl ?_
      replace h := Option.bind_eq_some_iff.mp h; obtain ⟨r2, hr2, h⟩ := h
      refine ev_aL dX11_sumOf_15 hr2 rfl ?_
      refine ev_iadd (q := 17) dX11_sumOf_16 rfl ?_
      refine ev_istore_n (q := 18) dX11_sumOf_17 rfl (by decide) ?_
      refine ev_iinc (q := 21) (v := v3 + (1 : Int32)) dX11_sumOf_18 rfl (by decide) rfl (by rfl) ?_
      refine ev_goto (q := 4) dX11_sumOf_21 (by decide) ?_
      exact ev_weak _ (mLe_some (mLe_some (mLe_some (mLe_some mLe_nil)))) (hk (v2 + r2) (v3 + (1 : Int32)) _ h hP)
def f_X11_sumOf (o : Nat) (v1 : Option Nat) (w : mW) : Option (Int32) := Option.bind (f_X11_sumOf_L4 o v1 w mFuel (0 : Int32) (0 : Int32)) fun e3 => some (e3)
set_option maxRecDepth 100000 in
set_option maxHeartbeats 4000000 in
theorem met_X11_sumOf (o : Nat) (v1 : Option Nat) (w : mW) (res : Int32) (h : f_X11_sumOf o v1 w = some res) : mMet M_X11_sumOf 0 [vr ((some o)), vr v1] w (some (vi res)) w := by
  refine ev_met (n := 2) (by decide) rfl fun X => ?_
  unfold f_X11_sumOf at h
  show mEv X M_X11_sumOf 0 _ _ 0 [some (vr ((some o))), some (vr v1), none, none] [] w
  refine ev_iconst (q := 1) (v := (0 : Int32)) dX11_sumOf_0 rfl (by decide) ?_
  refine ev_istore_n (q := 2) dX11_sumOf_1 rfl (by decide) ?_
  refine ev_iconst (q := 3) (v := (0 : Int32)) dX11_sumOf_2 rfl (by decide) ?_
  refine ev_istore_n (q := 4) dX11_sumOf_3 rfl (by decide) ?_
  replace h := Option.bind_eq_some_iff.mp h; obtain ⟨e3, he3, h⟩ := h
  refine ev_weak _ (mLe_some (mLe_some (mLe_some (mLe_some mLe_nil)))) (e_X11_sumOf_L4 (fun z => e3 = z) o v1 w (fun e3q hq => ?_) mFuel (0 : Int32) (0 : Int32) _ he3 rfl)
  subst hq
  refine ev_iload_n (q := 25) dX11_sumOf_24 rfl rfl ?_
  cases h
  exact ev_iret dX11_sumOf_25 rfl rfl
def f_J6_bitCount_0f7a4 (v0 : Int32) (w : mW) : Option (Int32) := some ((((((((v0 - (((v0.toUInt32 >>> ((1 : Int32).toUInt32 &&& Int32.toUInt32 31)).toInt32) &&& (1431655765 : Int32))) &&& (858993459 : Int32)) + ((((v0 - (((v0.toUInt32 >>> ((1 : Int32).toUInt32 &&& Int32.toUInt32 31)).toInt32) &&& (1431655765 : Int32))).toUInt32 >>> ((2 : Int32).toUInt32 &&& Int32.toUInt32 31)).toInt32) &&& (858993459 : Int32))) + (((((v0 - (((v0.toUInt32 >>> ((1 : Int32).toUInt32 &&& Int32.toUInt32 31)).toInt32) &&& (1431655765 : Int32))) &&& (858993459 : Int32)) + ((((v0 - (((v0.toUInt32 >>> ((1 : Int32).toUInt32 &&& Int32.toUInt32 31)).toInt32) &&& (1431655765 : Int32))).toUInt32 >>> ((2 : Int32).toUInt32 &&& Int32.toUInt32 31)).toInt32) &&& (858993459 : Int32))).toUInt32 >>> ((4 : Int32).toUInt32 &&& Int32.toUInt32 31)).toInt32)) &&& (252645135 : Int32)) + (((((((v0 - (((v0.toUInt32 >>> ((1 : Int32).toUInt32 &&& Int32.toUInt32 31)).toInt32) &&& (1431655765 : Int32))) &&& (858993459 : Int32)) + ((((v0 - (((v0.toUInt32 >>> ((1 : Int32).toUInt32 &&& Int32.toUInt32 31)).toInt32) &&& (1431655765 : Int32))).toUInt32 >>> ((2 : Int32).toUInt32 &&& Int32.toUInt32 31)).toInt32) &&& (858993459 : Int32))) + (((((v0 - (((v0.toUInt32 >>> ((1 : Int32).toUInt32 &&& Int32.toUInt32 31)).toInt32) &&& (1431655765 : Int32))) &&& (858993459 : Int32)) + ((((v0 - (((v0.toUInt32 >>> ((1 : Int32).toUInt32 &&& Int32.toUInt32 31)).toInt32) &&& (1431655765 : Int32))).toUInt32 >>> ((2 : Int32).toUInt32 &&& Int32.toUInt32 31)).toInt32) &&& (858993459 : Int32))).toUInt32 >>> ((4 : Int32).toUInt32 &&& Int32.toUInt32 31)).toInt32)) &&& (252645135 : Int32)).toUInt32 >>> ((8 : Int32).toUInt32 &&& Int32.toUInt32 31)).toInt32)) + ((((((((v0 - (((v0.toUInt32 >>> ((1 : Int32).toUInt32 &&& Int32.toUInt32 31)).toInt32) &&& (1431655765 : Int32))) &&& (858993459 : Int32)) + ((((v0 - (((v0.toUInt32 >>> ((1 : Int32).toUInt32 &&& Int32.toUInt32 31)).toInt32) &&& (1431655765 : Int32))).toUInt32 >>> ((2 : Int32).toUInt32 &&& Int32.toUInt32 31)).toInt32) &&& (858993459 : Int32))) + (((((v0 - (((v0.toUInt32 >>> ((1 : Int32).toUInt32 &&& Int32.toUInt32 31)).toInt32) &&& (1431655765 : Int32))) &&& (858993459 : Int32)) + ((((v0 - (((v0.toUInt32 >>> ((1 : Int32).toUInt32 &&& Int32.toUInt32 31)).toInt32) &&& (1431655765 : Int32))).toUInt32 >>> ((2 : Int32).toUInt32 &&& Int32.toUInt32 31)).toInt32) &&& (858993459 : Int32))).toUInt32 >>> ((4 : Int32).toUInt32 &&& Int32.toUInt32 31)).toInt32)) &&& (252645135 : Int32)) + (((((((v0 - (((v0.toUInt32 >>> ((1 : Int32).toUInt32 &&& Int32.toUInt32 31)).toInt32) &&& (1431655765 : Int32))) &&& (858993459 : Int32)) + ((((v0 - (((v0.toUInt32 >>> ((1 : Int32).toUInt32 &&& Int32.toUInt32 31)).toInt32) &&& (1431655765 : Int32))).toUInt32 >>> ((2 : Int32).toUInt32 &&& Int32.toUInt32 31)).toInt32) &&& (858993459 : Int32))) + (((((v0 - (((v0.toUInt32 >>> ((1 : Int32).toUInt32 &&& Int32.toUInt32 31)).toInt32) &&& (1431655765 : Int32))) &&& (858993459 : Int32)) + ((((v0 - (((v0.toUInt32 >>> ((1 : Int32).toUInt32 &&& Int32.toUInt32 31)).toInt32) &&& (1431655765 : Int32))).toUInt32 >>> ((2 : Int32).toUInt32 &&& Int32.toUInt32 31)).toInt32) &&& (858993459 : Int32))).toUInt32 >>> ((4 : Int32).toUInt32 &&& Int32.toUInt32 31)).toInt32)) &&& (252645135 : Int32)).toUInt32 >>> ((8 : Int32).toUInt32 &&& Int32.toUInt32 31)).toInt32)).toUInt32 >>> ((16 : Int32).toUInt32 &&& Int32.toUInt32 31)).toInt32)) &&& (63 : Int32))
set_option maxRecDepth 100000 in
set_option maxHeartbeats 4000000 in
theorem met_J6_bitCount_0f7a4 (v0 : Int32) (w : mW) (res : Int32) (h : f_J6_bitCount_0f7a4 v0 w = some res) : mMet M_J6_bitCount_0f7a4 0 [vi v0] w (some (vi res)) w := by
  refine ev_met (n := 0) (by decide) rfl fun X => ?_
  unfold f_J6_bitCount_0f7a4 at h
  show mEv X M_J6_bitCount_0f7a4 0 _ _ 0 [some (vi v0)] [] w
  refine ev_iload_n (q := 1) dJ6_bitCount_0f7a4_0 rfl rfl ?_
  refine ev_iload_n (q := 2) dJ6_bitCount_0f7a4_1 rfl rfl ?_
  refine ev_iconst (q := 3) (v := (1 : Int32)) dJ6_bitCount_0f7a4_2 rfl (by decide) ?_
  refine ev_iushr (q := 4) dJ6_bitCount_0f7a4_3 rfl ?_
  refine ev_ldcw (q := 7) (v := (1431655765 : Int32)) dJ6_bitCount_0f7a4_4 rfl tw_609 ?_
  refine ev_iand (q := 8) dJ6_bitCount_0f7a4_7 rfl ?_
  refine ev_isub (q := 9) dJ6_bitCount_0f7a4_8 rfl ?_
  refine ev_istore_n (q := 10) dJ6_bitCount_0f7a4_9 rfl (by decide) ?_
  refine ev_iload_n (q := 11) dJ6_bitCount_0f7a4_10 rfl rfl ?_
  refine ev_ldcw (q := 14) (v := (858993459 : Int32)) dJ6_bitCount_0f7a4_11 rfl tw_610 ?_
  refine ev_iand (q := 15) dJ6_bitCount_0f7a4_14 rfl ?_
  refine ev_iload_n (q := 16) dJ6_bitCount_0f7a4_15 rfl rfl ?_
  refine ev_iconst (q := 17) (v := (2 : Int32)) dJ6_bitCount_0f7a4_16 rfl (by decide) ?_
  refine ev_iushr (q := 18) dJ6_bitCount_0f7a4_17 rfl ?_
  refine ev_ldcw (q := 21) (v := (858993459 : Int32)) dJ6_bitCount_0f7a4_18 rfl tw_610 ?_
  refine ev_iand (q := 22) dJ6_bitCount_0f7a4_21 rfl ?_
  refine ev_iadd (q := 23) dJ6_bitCount_0f7a4_22 rfl ?_
  refine ev_istore_n (q := 24) dJ6_bitCount_0f7a4_23 rfl (by decide) ?_
  refine ev_iload_n (q := 25) dJ6_bitCount_0f7a4_24 rfl rfl ?_
  refine ev_iload_n (q := 26) dJ6_bitCount_0f7a4_25 rfl rfl ?_
  refine ev_iconst (q := 27) (v := (4 : Int32)) dJ6_bitCount_0f7a4_26 rfl (by decide) ?_
  refine ev_iushr (q := 28) dJ6_bitCount_0f7a4_27 rfl ?_
  refine ev_iadd (q := 29) dJ6_bitCount_0f7a4_28 rfl ?_
  refine ev_ldcw (q := 32) (v := (252645135 : Int32)) dJ6_bitCount_0f7a4_29 rfl tw_611 ?_
  refine ev_iand (q := 33) dJ6_bitCount_0f7a4_32 rfl ?_
  refine ev_istore_n (q := 34) dJ6_bitCount_0f7a4_33 rfl (by decide) ?_
  refine ev_iload_n (q := 35) dJ6_bitCount_0f7a4_34 rfl rfl ?_
  refine ev_iload_n (q := 36) dJ6_bitCount_0f7a4_35 rfl rfl ?_
  refine ev_bipush (q := 38) (v := (8 : Int32)) dJ6_bitCount_0f7a4_36 rfl (by decide) ?_
  refine ev_iushr (q := 39) dJ6_bitCount_0f7a4_38 rfl ?_
  refine ev_iadd (q := 40) dJ6_bitCount_0f7a4_39 rfl ?_
  refine ev_istore_n (q := 41) dJ6_bitCount_0f7a4_40 rfl (by decide) ?_
  refine ev_iload_n (q := 42) dJ6_bitCount_0f7a4_41 rfl rfl ?_
  refine ev_iload_n (q := 43) dJ6_bitCount_0f7a4_42 rfl rfl ?_
  refine ev_bipush (q := 45) (v := (16 : Int32)) dJ6_bitCount_0f7a4_43 rfl (by decide) ?_
  refine ev_iushr (q := 46) dJ6_bitCount_0f7a4_45 rfl ?_
  refine ev_iadd (q := 47) dJ6_bitCount_0f7a4_46 rfl ?_
  refine ev_istore_n (q := 48) dJ6_bitCount_0f7a4_47 rfl (by decide) ?_
  refine ev_iload_n (q := 49) dJ6_bitCount_0f7a4_48 rfl rfl ?_
  refine ev_bipush (q := 51) (v := (63 : Int32)) dJ6_bitCount_0f7a4_49 rfl (by decide) ?_
  refine ev_iand (q := 52) dJ6_bitCount_0f7a4_51 rfl ?_
  cases h
  exact ev_iret dJ6_bitCount_0f7a4_52 rfl rfl
def f_J0_coder_7d493_J14 (s0 : Int32) (w : mW) : Option (Int32) := if s0 = 0 ∨ s0 = 1 then some (s0) else none
set_option maxRecDepth 100000 in
set_option maxHeartbeats 4000000 in
theorem e_J0_coder_7d493_J14 {X : mXs} (s0 : Int32) (w : mW) (res : Int32) (h : f_J0_coder_7d493_J14 s0 w = some res) : mEv X M_J0_coder_7d493 0 (some (vi res)) w 14 [none] [vi s0] w := by
  unfold f_J0_coder_7d493_J14 at h
  by_cases hz : s0 = 0 ∨ s0 = 1
  · rw [if_pos hz] at h
    cases h
    exact ev_iret dJ0_coder_7d493_14 rfl (by rcases hz with hz | hz <;> rw [hz] <;> rfl)
  · rw [if_neg hz] at h
    cases h
def f_J0_coder_7d493  (w : mW) : Option (Int32) := f_J0_coder_7d493_J14 (0 : Int32) w
set_option maxRecDepth 100000 in
set_option maxHeartbeats 4000000 in
theorem met_J0_coder_7d493  (w : mW) (res : Int32) (h : f_J0_coder_7d493  w = some res) : mMet M_J0_coder_7d493 0 [vx 1] w (some (vi res)) w := by
  refine ev_met (n := 0) (by decide) rfl fun X => ?_
  unfold f_J0_coder_7d493 at h
  show mEv X M_J0_coder_7d493 0 _ _ 0 [some (vx 1)] [] w
  refine ev_compact (q := 3) dJ0_coder_7d493_0 rfl tw_347 ?_
  refine ev_if_eq_f (q := 6) (t0 := 13) dJ0_coder_7d493_3 (by decide) rfl (by decide) ?_
  refine ev_aload_n (q := 7) dJ0_coder_7d493_6 rfl rfl ?_
  refine ev_coder (q := 10) dJ0_coder_7d493_7 rfl tw_1236 ?_
  refine ev_goto (q := 14) dJ0_coder_7d493_10 (by decide) ?_
  exact ev_weak _ (mLe_none mLe_nil) (e_J0_coder_7d493_J14 (0 : Int32) w _ h)
def f_J0_isLatin1_aae02_J18 (s0 : Int32) (w : mW) : Option (Int32) := if s0 = 0 ∨ s0 = 1 then some (s0) else none
set_option maxRecDepth 100000 in
set_option maxHeartbeats 4000000 in
theorem e_J0_isLatin1_aae02_J18 {X : mXs} (s0 : Int32) (w : mW) (res : Int32) (h : f_J0_isLatin1_aae02_J18 s0 w = some res) : mEv X M_J0_isLatin1_aae02 0 (some (vi res)) w 18 [none] [vi s0] w := by
  unfold f_J0_isLatin1_aae02_J18 at h
  by_cases hz : s0 = 0 ∨ s0 = 1
  · rw [if_pos hz] at h
    cases h
    exact ev_zret dJ0_isLatin1_aae02_18 rfl hz
  · rw [if_neg hz] at h
    cases h
def f_J0_isLatin1_aae02_J17 (w : mW) : Option (Int32) := f_J0_isLatin1_aae02_J18 (0 : Int32) w
set_option maxRecDepth 100000 in
set_option maxHeartbeats 4000000 in
theorem e_J0_isLatin1_aae02_J17 {X : mXs} (w : mW) (res : Int32) (h : f_J0_isLatin1_aae02_J17 w = some res) : mEv X M_J0_isLatin1_aae02 0 (some (vi res)) w 17 [none] [] w := by
  unfold f_J0_isLatin1_aae02_J17 at h
  refine ev_iconst (q := 18) (v := (0 : Int32)) dJ0_isLatin1_aae02_17 rfl (by decide) ?_
  exact ev_weak _ (mLe_none mLe_nil) (e_J0_isLatin1_aae02_J18 (0 : Int32) w _ h)
def f_J0_isLatin1_aae02  (w : mW) : Option (Int32) := f_J0_isLatin1_aae02_J18 (1 : Int32) w
set_option maxRecDepth 100000 in
set_option maxHeartbeats 4000000 in
theorem met_J0_isLatin1_aae02  (w : mW) (res : Int32) (h : f_J0_isLatin1_aae02  w = some res) : mMet M_J0_isLatin1_aae02 0 [vx 1] w (some (vi res)) w := by
  refine ev_met (n := 0) (by decide) rfl fun X => ?_
  unfold f_J0_isLatin1_aae02 at h
  show mEv X M_J0_isLatin1_aae02 0 _ _ 0 [some (vx 1)] [] w
  refine ev_compact (q := 3) dJ0_isLatin1_aae02_0 rfl tw_347 ?_
  refine ev_if_eq_f (q := 6) (t0 := 17) dJ0_isLatin1_aae02_3 (by decide) rfl (by decide) ?_
  refine ev_aload_n (q := 7) dJ0_isLatin1_aae02_6 rfl rfl ?_
  refine ev_coder (q := 10) dJ0_isLatin1_aae02_7 rfl tw_1236 ?_
  refine ev_if_ne_f (q := 13) (t0 := 17) dJ0_isLatin1_aae02_10 (by decide) rfl (by decide) ?_
  refine ev_iconst (q := 14) (v := (1 : Int32)) dJ0_isLatin1_aae02_13 rfl (by decide) ?_
  refine ev_goto (q := 18) dJ0_isLatin1_aae02_14 (by decide) ?_
  exact ev_weak _ (mLe_none mLe_nil) (e_J0_isLatin1_aae02_J18 (1 : Int32) w _ h)
def f_J1_canEncode_9a6ad_J16 (s0 : Int32) (w : mW) : Option (Int32) := if s0 = 0 ∨ s0 = 1 then some (s0) else none
set_option maxRecDepth 100000 in
set_option maxHeartbeats 4000000 in
theorem e_J1_canEncode_9a6ad_J16 {X : mXs} (s0 : Int32) (w : mW) (res : Int32) (h : f_J1_canEncode_9a6ad_J16 s0 w = some res) : mEv X M_J1_canEncode_9a6ad 0 (some (vi res)) w 16 [none] [vi s0] w := by
  unfold f_J1_canEncode_9a6ad_J16 at h
  by_cases hz : s0 = 0 ∨ s0 = 1
  · rw [if_pos hz] at h
    cases h
    exact ev_zret dJ1_canEncode_9a6ad_16 rfl hz
  · rw [if_neg hz] at h
    cases h
def f_J1_canEncode_9a6ad_J15 (w : mW) : Option (Int32) := f_J1_canEncode_9a6ad_J16 (0 : Int32) w
set_option maxRecDepth 100000 in
set_option maxHeartbeats 4000000 in
theorem e_J1_canEncode_9a6ad_J15 {X : mXs} (w : mW) (res : Int32) (h : f_J1_canEncode_9a6ad_J15 w = some res) : mEv X M_J1_canEncode_9a6ad 0 (some (vi res)) w 15 [none] [] w := by
  unfold f_J1_canEncode_9a6ad_J15 at h
  refine ev_iconst (q := 16) (v := (0 : Int32)) dJ1_canEncode_9a6ad_15 rfl (by decide) ?_
  exact ev_weak _ (mLe_none mLe_nil) (e_J1_canEncode_9a6ad_J16 (0 : Int32) w _ h)
def f_J1_canEncode_9a6ad (v0 : Int32) (w : mW) : Option (Int32) := if v0 < 0 then (f_J1_canEncode_9a6ad_J15 w) else (if (255 : Int32) < v0 then (f_J1_canEncode_9a6ad_J15 w) else (f_J1_canEncode_9a6ad_J16 (1 : Int32) w))
set_option maxRecDepth 100000 in
set_option maxHeartbeats 4000000 in
theorem met_J1_canEncode_9a6ad (v0 : Int32) (w : mW) (res : Int32) (h : f_J1_canEncode_9a6ad v0 w = some res) : mMet M_J1_canEncode_9a6ad 0 [vi v0] w (some (vi res)) w := by
  refine ev_met (n := 0) (by decide) rfl fun X => ?_
  unfold f_J1_canEncode_9a6ad at h
  show mEv X M_J1_canEncode_9a6ad 0 _ _ 0 [some (vi v0)] [] w
  refine ev_iload_n (q := 1) dJ1_canEncode_9a6ad_0 rfl rfl ?_
  by_cases hc : v0 < 0
  · rw [if_pos hc] at h
    refine ev_if_lt_t (q := 15) dJ1_canEncode_9a6ad_1 (by decide) hc ?_
    exact ev_weak _ (mLe_none mLe_nil) (e_J1_canEncode_9a6ad_J15 w _ h)
  · rw [if_neg hc] at h
    refine ev_if_lt_f (q := 4) (t0 := 15) dJ1_canEncode_9a6ad_1 (by decide) rfl hc ?_
    refine ev_iload_n (q := 5) dJ1_canEncode_9a6ad_4 rfl rfl ?_
    refine ev_sipush (q := 8) (v := (255 : Int32)) dJ1_canEncode_9a6ad_5 rfl (by decide) ?_
    by_cases hc : (255 : Int32) < v0
    · rw [if_pos hc] at h
      refine ev_icmp_gt_t (q := 15) dJ1_canEncode_9a6ad_8 (by decide) hc ?_
      exact ev_weak _ (mLe_none mLe_nil) (e_J1_canEncode_9a6ad_J15 w _ h)
    · rw [if_neg hc] at h
      refine ev_icmp_gt_f (q := 11) (t0 := 15) dJ1_canEncode_9a6ad_8 (by decide) rfl hc ?_
      refine ev_iconst (q := 12) (v := (1 : Int32)) dJ1_canEncode_9a6ad_11 rfl (by decide) ?_
      refine ev_goto (q := 16) dJ1_canEncode_9a6ad_12 (by decide) ?_
      exact ev_weak _ (mLe_none mLe_nil) (e_J1_canEncode_9a6ad_J16 (1 : Int32) w _ h)
def f_J1_indexOfChar_4cfef_L7 (v3 : Int32) (v4 : Int32) (w : mW) : Nat → Int32 → Option ((Int32) ⊕ (Unit))
  | 0, _ => none
  | n + 1, v5 => if v3 ≤ v5 then (some (.inr ())) else (Option.bind (mKind v5) fun r1 => if r1 = v4 then (some (.inl v5)) else ((f_J1_indexOfChar_4cfef_L7 v3 v4 w n) (v5 + (1 : Int32))))
set_option maxRecDepth 100000 in
set_option maxHeartbeats 4000000 in
theorem e_J1_indexOfChar_4cfef_L7 {X : mXs} {r : Option mV} {w' : mW} (P : ((Int32) ⊕ (Unit)) → Prop) (v3 : Int32) (v4 : Int32) (w : mW) (hret : ∀ y, P (.inl y) → r = (some (vi y)) ∧ w' = w) (hexit : ∀ y, P (.inr y) → mEv X M_J1_indexOfChar_4cfef 0 r w' 31 [none, none, none, none, none, none] [] w) : ∀ (n : Nat) (v5 : Int32) (e : (Int32) ⊕ (Unit)), f_J1_indexOfChar_4cfef_L7 v3 v4 w n v5 = some e → P e → mEv X M_J1_indexOfChar_4cfef 0 r w' 7 [some (vx 2), none, none, some (vi v3), some (vi v4), some (vi v5)] [] w := by
  intro n
  induction n with
  | zero =>
    intro v5 e h hP
    rw [f_J1_indexOfChar_4cfef_L7] at h
    cases h
  | succ n hk =>
    intro v5 e h hP
    rw [f_J1_indexOfChar_4cfef_L7] at h
    refine ev_iload (q := 9) dJ1_indexOfChar_4cfef_7 rfl rfl ?_
    refine ev_iload_n (q := 10) dJ1_indexOfChar_4cfef_9 rfl rfl ?_
    by_cases hc : v3 ≤ v5
    · rw [if_pos hc] at h
      refine ev_icmp_ge_t (q := 31) dJ1_indexOfChar_4cfef_10 (by decide) hc ?_
      cases h
      exact ev_weak _ (mLe_none (mLe_none (mLe_none (mLe_none (mLe_none (mLe_none mLe_nil)))))) (hexit _ hP)
    · rw [if_neg hc] at h
      refine ev_icmp_ge_f (q := 13) (t0 := 31) dJ1_indexOfChar_4cfef_10 (by decide) rfl hc ?_
      refine ev_aload_n (q := 14) dJ1_indexOfChar_4cfef_13 rfl rfl ?_
      refine ev_iload (q := 16) dJ1_indexOfChar_4cfef_14 rfl rfl ?_
      replace h := Option.bind_eq_some_iff.mp h; obtain ⟨r1, hr1, h⟩ := h
      refine ev_bL dJ1_indexOfChar_4cfef_16 hr1 rfl ?_
      refine ev_iload (q := 19) dJ1_indexOfChar_4cfef_17 rfl rfl ?_
      by_cases hc : r1 = v4
      · rw [if_pos hc] at h
        refine ev_icmp_ne_f (q := 22) (t0 := 25) dJ1_indexOfChar_4cfef_19 (by decide) rfl hc ?_
        refine ev_iload (q := 24) dJ1_indexOfChar_4cfef_22 rfl rfl ?_
        cases h
        obtain ⟨hr1, hr2⟩ := hret _ hP
        subst hr1
        subst hr2
        exact ev_iret dJ1_indexOfChar_4cfef_24 rfl rfl
      · rw [if_neg hc] at h
        refine ev_icmp_ne_t (q := 25) dJ1_indexOfChar_4cfef_19 (by decide) hc ?_
        refine ev_iinc (q := 28) (v := v5 + (1 : Int32)) dJ1_indexOfChar_4cfef_25 rfl (by decide) rfl (by rfl) ?_
        refine ev_goto (q := 7) dJ1_indexOfChar_4cfef_28 (by decide) ?_
        exact ev_weak _ (mLe_some (mLe_none (mLe_none (mLe_some (mLe_some (mLe_some mLe_nil)))))) (hk (v5 + (1 : Int32)) _ h hP)
def f_J1_indexOfChar_4cfef (v1 : Int32) (v2 : Int32) (v3 : Int32) (w : mW) : Option (Int32) := Option.bind (f_J1_indexOfChar_4cfef_L7 v3 v1.toInt8.toInt32 w mFuel v2) fun e2 => match e2 with | .inl y4 => some y4 | .inr y3 => some ((-1 : Int32))
set_option maxRecDepth 100000 in
set_option maxHeartbeats 4000000 in
theorem met_J1_indexOfChar_4cfef (v1 : Int32) (v2 : Int32) (v3 : Int32) (w : mW) (res : Int32) (h : f_J1_indexOfChar_4cfef v1 v2 v3 w = some res) : mMet M_J1_indexOfChar_4cfef 0 [vx 2, vi v1, vi v2, vi v3] w (some (vi res)) w := by
  refine ev_met (n := 2) (by decide) rfl fun X => ?_
  unfold f_J1_indexOfChar_4cfef at h
  show mEv X M_J1_indexOfChar_4cfef 0 _ _ 0 [some (vx 2), some (vi v1), some (vi v2), some (vi v3), none, none] [] w
  refine ev_iload_n (q := 1) dJ1_indexOfChar_4cfef_0 rfl rfl ?_
  refine ev_i2b (q := 2) dJ1_indexOfChar_4cfef_1 rfl ?_
  refine ev_istore (q := 4) dJ1_indexOfChar_4cfef_2 rfl (by decide) ?_
  refine ev_iload_n (q := 5) dJ1_indexOfChar_4cfef_4 rfl rfl ?_
  refine ev_istore (q := 7) dJ1_indexOfChar_4cfef_5 rfl (by decide) ?_
  replace h := Option.bind_eq_some_iff.mp h; obtain ⟨e2, he2, h⟩ := h
  refine ev_weak _ (mLe_some (mLe_none (mLe_none (mLe_some (mLe_some (mLe_some mLe_nil)))))) (e_J1_indexOfChar_4cfef_L7 (fun z => e2 = z) v3 v1.toInt8.toInt32 w (fun y4 hq => ?_) (fun y3 hq => ?_) mFuel v2 _ he2 rfl)
  · subst hq
    dsimp only at h
    cases h
    exact ⟨rfl, rfl⟩
  · subst hq
    dsimp only at h
    refine ev_iconst (q := 32) (v := (-1 : Int32)) dJ1_indexOfChar_4cfef_31 rfl (by decide) ?_
    cases h
    exact ev_iret dJ1_indexOfChar_4cfef_32 rfl rfl
def f_X10_as_J38 (s0 : Int32) (w : mW) : Option (Int32) := some (s0)
set_option maxRecDepth 100000 in
set_option maxHeartbeats 4000000 in
theorem e_X10_as_J38 {X : mXs} (s0 : Int32) (w : mW) (res : Int32) (h : f_X10_as_J38 s0 w = some res) : mEv X M_X10_as 1 (some (vi res)) w 38 [none, none, none, none] [vi s0] w := by
  unfold f_X10_as_J38 at h
  cases h
  exact ev_iret dX10_as_38 rfl rfl
def f_X10_as_J22 (w : mW) : Option (Int32) := some ((-102 : Int32))
set_option maxRecDepth 100000 in
set_option maxHeartbeats 4000000 in
theorem e_X10_as_J22 {X : mXs} (w : mW) (res : Int32) (h : f_X10_as_J22 w = some res) : mEv X M_X10_as 1 (some (vi res)) w 22 [none, none, none, none] [] w := by
  unfold f_X10_as_J22 at h
  refine ev_bipush (q := 24) (v := (-102 : Int32)) dX10_as_22 rfl (by decide) ?_
  cases h
  exact ev_iret dX10_as_24 rfl rfl
def f_X10_as (o : Nat) (v1 : Int32) (v2 : Int32) (w : mW) : Option (Int32) := Option.bind (kO w (some o) 10) fun _ => Option.bind (f_X10_tosserAt o v1 w) fun r1 => oC r1 (some ((-101 : Int32))) (fun a3 => if v2 < 0 then (f_X10_as_J22 w) else (if v2 ≤ (4 : Int32) then (Option.bind (f_X10_isOfKind (some a3) v2 w) fun r4 => if r4 = 0 then (f_X10_as_J38 (-1 : Int32) w) else (f_X10_as_J38 v1 w)) else (f_X10_as_J22 w)))
set_option maxRecDepth 100000 in
set_option maxHeartbeats 4000000 in
theorem met_X10_as (o : Nat) (v1 : Int32) (v2 : Int32) (w : mW) (res : Int32) (h : f_X10_as o v1 v2 w = some res) : mMet M_X10_as 1 [vr ((some o)), vi v1, vi v2] w (some (vi res)) w := by
  refine ev_met (n := 1) (by decide) rfl fun X => ?_
  unfold f_X10_as at h
  show mEv X M_X10_as 1 _ _ 0 [some (vr ((some o))), some (vi v1), some (vi v2), none] [] w
  refine ev_aload_n (q := 1) dX10_as_0 rfl rfl ?_
  refine ev_iload_n (q := 2) dX10_as_1 rfl rfl ?_
  replace h := Option.bind_eq_some_iff.mp h; obtain ⟨q2, hq2, h⟩ := h
  obtain ⟨hxq2, fsq2, hkq2⟩ := kO_spec hq2
  cases hxq2
  replace h := Option.bind_eq_some_iff.mp h; obtain ⟨r1, hr1, h⟩ := h
  refine ev_invV (M1 := M_X10_tosserAt) (as := [vi v1]) (fs := fsq2) (ci := 10) dX10_as_2 rfl tw_515 cal_X10_tosserAt tw_517 tw_12 (by decide) rfl rfl (Nat.le_of_ble_eq_true rfl) hkq2 rfl (met_X10_tosserAt o v1 w _ hr1) ?_
  refine ev_astore_n (q := 6) dX10_as_5 rfl (by decide) ?_
  refine ev_aload_n (q := 7) dX10_as_6 rfl rfl ?_
  rcases r1 with _ | a3
  · dsimp only [oC] at h
    refine ev_ifnonnull_f (q := 10) dX10_as_7 rfl ?_
    refine ev_bipush (q := 12) (v := (-101 : Int32)) dX10_as_10 rfl (by decide) ?_
    cases h
    exact ev_iret dX10_as_12 rfl rfl
  · dsimp only [oC] at h
    refine ev_ifnonnull_t (q := 13) dX10_as_7 (by decide) ?_
    refine ev_iload_n (q := 14) dX10_as_13 rfl rfl ?_
    by_cases hc : v2 < 0
    · rw [if_pos hc] at h
      refine ev_if_lt_t (q := 22) dX10_as_14 (by decide) hc ?_
      exact ev_weak _ (mLe_none (mLe_none (mLe_none (mLe_none mLe_nil)))) (e_X10_as_J22 w _ h)
    · rw [if_neg hc] at h
      refine ev_if_lt_f (q := 17) (t0 := 22) dX10_as_14 (by decide) rfl hc ?_
      refine ev_iload_n (q := 18) dX10_as_17 rfl rfl ?_
      refine ev_iconst (q := 19) (v := (4 : Int32)) dX10_as_18 rfl (by decide) ?_
      by_cases hc : v2 ≤ (4 : Int32)
      · rw [if_pos hc] at h
        refine ev_icmp_le_t (q := 25) dX10_as_19 (by decide) hc ?_
        refine ev_aload_n (q := 26) dX10_as_25 rfl rfl ?_
        refine ev_iload_n (q := 27) dX10_as_26 rfl rfl ?_
        replace h := Option.bind_eq_some_iff.mp h; obtain ⟨r4, hr4, h⟩ := h
        refine ev_invS (M1 := M_X10_isOfKind) (as := [vr ((some a3)), vi v2]) dX10_as_27 rfl tw_639 cal_X10_isOfKind tw_640 (by decide) rfl rfl (Nat.le_of_ble_eq_true rfl) (met_X10_isOfKind (some a3) v2 w _ hr4) ?_
        by_cases hc : r4 = 0
        · rw [if_pos hc] at h
          refine ev_if_eq_t (q := 37) dX10_as_30 (by decide) hc ?_
          refine ev_iconst (q := 38) (v := (-1 : Int32)) dX10_as_37 rfl (by decide) ?_
          exact ev_weak _ (mLe_none (mLe_none (mLe_none (mLe_none mLe_nil)))) (e_X10_as_J38 (-1 : Int32) w _ h)
        · rw [if_neg hc] at h
          refine ev_if_eq_f (q := 33) (t0 := 37) dX10_as_30 (by decide) rfl hc ?_
          refine ev_iload_n (q := 34) dX10_as_33 rfl rfl ?_
          refine ev_goto (q := 38) dX10_as_34 (by decide) ?_
          exact ev_weak _ (mLe_none (mLe_none (mLe_none (mLe_none mLe_nil)))) (e_X10_as_J38 v1 w _ h)
      · rw [if_neg hc] at h
        refine ev_icmp_le_f (q := 22) (t0 := 25) dX10_as_19 (by decide) rfl hc ?_
        exact ev_weak _ (mLe_none (mLe_none (mLe_none (mLe_none mLe_nil)))) (e_X10_as_J22 w _ h)
def f_X10_columnBy_J18 (s0 : Int32) (w : mW) : Option (Int32) := some (s0)
set_option maxRecDepth 100000 in
set_option maxHeartbeats 4000000 in
theorem e_X10_columnBy_J18 {X : mXs} (s0 : Int32) (w : mW) (res : Int32) (h : f_X10_columnBy_J18 s0 w = some res) : mEv X M_X10_columnBy 1 (some (vi res)) w 18 [none, none, none] [vi s0] w := by
  unfold f_X10_columnBy_J18 at h
  cases h
  exact ev_iret dX10_columnBy_18 rfl rfl
def f_X10_columnBy (v0 : Int32) (v1 : Int32) (w : mW) : Option (Int32) := Option.bind (f_X10_isColumn ((v0 + v1) - (2 : Int32)) w) fun r1 => if r1 = 0 then (f_X10_columnBy_J18 (-1 : Int32) w) else (f_X10_columnBy_J18 ((v0 + v1) - (2 : Int32)) w)
set_option maxRecDepth 100000 in
set_option maxHeartbeats 4000000 in
theorem met_X10_columnBy (v0 : Int32) (v1 : Int32) (w : mW) (res : Int32) (h : f_X10_columnBy v0 v1 w = some res) : mMet M_X10_columnBy 1 [vi v0, vi v1] w (some (vi res)) w := by
  refine ev_met (n := 1) (by decide) rfl fun X => ?_
  unfold f_X10_columnBy at h
  show mEv X M_X10_columnBy 1 _ _ 0 [some (vi v0), some (vi v1), none] [] w
  refine ev_iload_n (q := 1) dX10_columnBy_0 rfl rfl ?_
  refine ev_iload_n (q := 2) dX10_columnBy_1 rfl rfl ?_
  refine ev_iadd (q := 3) dX10_columnBy_2 rfl ?_
  refine ev_iconst (q := 4) (v := (2 : Int32)) dX10_columnBy_3 rfl (by decide) ?_
  refine ev_isub (q := 5) dX10_columnBy_4 rfl ?_
  refine ev_istore_n (q := 6) dX10_columnBy_5 rfl (by decide) ?_
  refine ev_iload_n (q := 7) dX10_columnBy_6 rfl rfl ?_
  replace h := Option.bind_eq_some_iff.mp h; obtain ⟨r1, hr1, h⟩ := h
  refine ev_invS (M1 := M_X10_isColumn) (as := [vi ((v0 + v1) - (2 : Int32))]) dX10_columnBy_7 rfl tw_624 cal_X10_isColumn tw_625 (by decide) rfl rfl (Nat.le_of_ble_eq_true rfl) (met_X10_isColumn ((v0 + v1) - (2 : Int32)) w _ hr1) ?_
  by_cases hc : r1 = 0
  · rw [if_pos hc] at h
    refine ev_if_eq_t (q := 17) dX10_columnBy_10 (by decide) hc ?_
    refine ev_iconst (q := 18) (v := (-1 : Int32)) dX10_columnBy_17 rfl (by decide) ?_
    exact ev_weak _ (mLe_none (mLe_none (mLe_none mLe_nil))) (e_X10_columnBy_J18 (-1 : Int32) w _ h)
  · rw [if_neg hc] at h
    refine ev_if_eq_f (q := 13) (t0 := 17) dX10_columnBy_10 (by decide) rfl hc ?_
    refine ev_iload_n (q := 14) dX10_columnBy_13 rfl rfl ?_
    refine ev_goto (q := 18) dX10_columnBy_14 (by decide) ?_
    exact ev_weak _ (mLe_none (mLe_none (mLe_none mLe_nil))) (e_X10_columnBy_J18 ((v0 + v1) - (2 : Int32)) w _ h)
def f_X10_copy_L2 (v0 : Option Nat) (v1 : Option Nat) : Nat → Int32 → mW → Option (mW)
  | 0, _, _ => none
  | n + 1, v2, w => oC v0 (some (w)) (fun a1 => Option.bind (aN w (some a1)) fun r2 => if r2 ≤ v2 then (some (w)) else (Option.bind (aL w (some a1) v2) fun r3 => Option.bind (f_X10_put v1 v2 r3 w) fun w4 => (f_X10_copy_L2 v0 v1 n) (v2 + (1 : Int32)) w4))
set_option maxRecDepth 100000 in
set_option maxHeartbeats 4000000 in
theorem e_X10_copy_L2 {X : mXs} {r : Option mV} {w' : mW} (P : (mW) → Prop) (v0 : Option Nat) (v1 : Option Nat) (hexit : ∀ y, P y → mEv X M_X10_copy 1 r w' 26 [none, none, none] [] y) : ∀ (n : Nat) (v2 : Int32) (w : mW) (e : mW), f_X10_copy_L2 v0 v1 n v2 w = some e → P e → mEv X M_X10_copy 1 r w' 2 [some (vr v0), some (vr v1), some (vi v2)] [] w := by
  intro n
  induction n with
  | zero =>
    intro v2 w e h hP
    rw [f_X10_copy_L2] at h
    cases h
  | succ n hk =>
    intro v2 w e h hP
    rw [f_X10_copy_L2] at h
    refine ev_aload_n (q := 3) dX10_copy_2 rfl rfl ?_
    rcases v0 with _ | a1
    · dsimp only [oC] at h
      refine ev_ifnull_t (q := 26) dX10_copy_3 (by decide) ?_
      cases h
      exact ev_weak _ (mLe_none (mLe_none (mLe_none mLe_nil))) (hexit _ hP)
    · dsimp only [oC] at h
      refine ev_ifnull_f (q := 6) dX10_copy_3 rfl ?_
      refine ev_iload_n (q := 7) dX10_copy_6 rfl rfl ?_
      refine ev_aload_n (q := 8) dX10_copy_7 rfl rfl ?_
      replace h := Option.bind_eq_some_iff.mp h; obtain ⟨r2, hr2, h⟩ := h
      refine ev_aN dX10_copy_8 hr2 rfl ?_
      by_cases hc : r2 ≤ v2
      · rw [if_pos hc] at h
        refine ev_icmp_ge_t (q := 26) dX10_copy_9 (by decide) hc ?_
        cases h
        exact ev_weak _ (mLe_none (mLe_none (mLe_none mLe_nil))) (hexit _ hP)
      · rw [if_neg hc] at h
        refine ev_icmp_ge_f (q := 12) (t0 := 26) dX10_copy_9 (by decide) rfl hc ?_
        refine ev_aload_n (q := 13) dX10_copy_12 rfl rfl ?_
        refine ev_iload_n (q := 14) dX10_copy_13 rfl rfl ?_
        refine ev_aload_n (q := 15) dX10_copy_14 rfl rfl ?_
        refine ev_iload_n (q := 16) dX10_copy_15 rfl rfl ?_
        replace h := Option.bind_eq_some_iff.mp h; obtain ⟨r3, hr3, h⟩ := h
        refine ev_aL dX10_copy_16 hr3 rfl ?_
        replace h := Option.bind_eq_some_iff.mp h; obtain ⟨w4, hw4, h⟩ := h
        refine ev_invS (M1 := M_X10_put) (as := [vr v1, vi v2, vi r3]) dX10_copy_17 rfl tw_456 cal_X10_put tw_293 (by decide) rfl rfl (Nat.le_of_ble_eq_true rfl) (met_X10_put v1 v2 r3 w _ hw4) ?_
        refine ev_iinc (q := 23) (v := v2 + (1 : Int32)) dX10_copy_20 rfl (by decide) rfl (by rfl) ?_
        refine ev_goto (q := 2) dX10_copy_23 (by decide) ?_
        exact ev_weak _ (mLe_some (mLe_some (mLe_some mLe_nil))) (hk (v2 + (1 : Int32)) w4 _ h hP)
def f_X10_copy (v0 : Option Nat) (v1 : Option Nat) (w : mW) : Option (mW) := Option.bind (f_X10_copy_L2 v0 v1 mFuel (0 : Int32) w) fun e5 => some (e5)
set_option maxRecDepth 100000 in
set_option maxHeartbeats 4000000 in
theorem met_X10_copy (v0 : Option Nat) (v1 : Option Nat) (w : mW) (res : mW) (h : f_X10_copy v0 v1 w = some res) : mMet M_X10_copy 1 [vr v0, vr v1] w none res := by
  refine ev_met (n := 1) (by decide) rfl fun X => ?_
  unfold f_X10_copy at h
  show mEv X M_X10_copy 1 _ _ 0 [some (vr v0), some (vr v1), none] [] w
  refine ev_iconst (q := 1) (v := (0 : Int32)) dX10_copy_0 rfl (by decide) ?_
  refine ev_istore_n (q := 2) dX10_copy_1 rfl (by decide) ?_
  replace h := Option.bind_eq_some_iff.mp h; obtain ⟨e5, he5, h⟩ := h
  refine ev_weak _ (mLe_some (mLe_some (mLe_some mLe_nil))) (e_X10_copy_L2 (fun z => e5 = z) v0 v1 (fun e5q hq => ?_) mFuel (0 : Int32) w _ he5 rfl)
  subst hq
  cases h
  exact ev_vret dX10_copy_26 rfl
def f_X10_count (o : Nat) (v1 : Int32) (w : mW) : Option (Int32) := if v1 = 0 then (Option.bind (gI w (some o) 10 7) fun r1 => some (r1)) else (if v1 = 1 then (Option.bind (gI w (some o) 10 8) fun r2 => some (r2)) else (if v1 = 2 then (Option.bind (gR w (some o) 10 3) fun r3 => Option.bind (gI w r3 2 7) fun r4 => Option.bind (f_J6_bitCount_0f7a4 r4 w) fun r5 => some (r5)) else (if v1 = 3 then (Option.bind (gR w (some o) 10 3) fun r6 => Option.bind (gI w r6 2 9) fun r7 => some (r7)) else (if v1 = 4 then (Option.bind (gR w (some o) 10 3) fun r8 => Option.bind (gI w r8 2 8) fun r9 => some (r9 + (1 : Int32))) else (if v1 = 5 then (Option.bind (gR w (some o) 10 3) fun r10 => Option.bind (gI w r10 2 10) fun r11 => some (r11)) else (if v1 = 6 then (Option.bind (gR w (some o) 10 3) fun r12 => Option.bind (gR w r12 2 1) fun r13 => Option.bind (f_X10_sum r13 w) fun r14 => some (r14)) else (if v1 = 7 then (Option.bind (gR w (some o) 10 3) fun r15 => Option.bind (gR w r15 2 2) fun r16 => Option.bind (f_X10_sum r16 w) fun r17 => some (r17)) else (if v1 = 8 then (Option.bind (gR w (some o) 10 3) fun r18 => Option.bind (gI w r18 2 11) fun r19 => some (r19)) else (if v1 = 9 then (Option.bind (gR w (some o) 10 3) fun r20 => Option.bind (gR w r20 2 6) fun r21 => Option.bind (gI w r21 6 3) fun r22 => some (r22)) else (if v1 = 10 then (Option.bind (gR w (some o) 10 0) fun r23 => Option.bind (gI w r23 3 1) fun r24 => some (r24)) else (if v1 = 11 then (Option.bind (gI w (some o) 10 9) fun r25 => some (r25)) else (some ((-102 : Int32))))))))))))))
set_option maxRecDepth 100000 in
set_option maxHeartbeats 4000000 in
theorem met_X10_count (o : Nat) (v1 : Int32) (w : mW) (res : Int32) (h : f_X10_count o v1 w = some res) : mMet M_X10_count 1 [vr ((some o)), vi v1] w (some (vi res)) w := by
  refine ev_met (n := 0) (by decide) rfl fun X => ?_
  unfold f_X10_count at h
  show mEv X M_X10_count 1 _ _ 0 [some (vr ((some o))), some (vi v1)] [] w
  refine ev_iload_n (q := 1) dX10_count_0 rfl rfl ?_
  by_cases hc0 : v1 = 0
  · rw [if_pos hc0] at h
    refine ev_table_in (q := 64) (off := 63) dX10_count_1 (by rw [hc0]; decide) (by rw [hc0]; decide) (by rw [hc0]; rfl) (by decide) ?_
    refine ev_aload_n (q := 65) dX10_count_64 rfl rfl ?_
    replace h := Option.bind_eq_some_iff.mp h; obtain ⟨r1, hr1, h⟩ := h
    refine ev_gI dX10_count_65 fl_X10_72 hr1 rfl ?_
    cases h
    exact ev_iret dX10_count_68 rfl rfl
  · rw [if_neg hc0] at h
    by_cases hc1 : v1 = 1
    · rw [if_pos hc1] at h
      refine ev_table_in (q := 69) (off := 68) dX10_count_1 (by rw [hc1]; decide) (by rw [hc1]; decide) (by rw [hc1]; rfl) (by decide) ?_
      refine ev_aload_n (q := 70) dX10_count_69 rfl rfl ?_
      replace h := Option.bind_eq_some_iff.mp h; obtain ⟨r2, hr2, h⟩ := h
      refine ev_gI dX10_count_70 fl_X10_197 hr2 rfl ?_
      cases h
      exact ev_iret dX10_count_73 rfl rfl
    · rw [if_neg hc1] at h
      by_cases hc2 : v1 = 2
      · rw [if_pos hc2] at h
        refine ev_table_in (q := 74) (off := 73) dX10_count_1 (by rw [hc2]; decide) (by rw [hc2]; decide) (by rw [hc2]; rfl) (by decide) ?_
        refine ev_aload_n (q := 75) dX10_count_74 rfl rfl ?_
        replace h := Option.bind_eq_some_iff.mp h; obtain ⟨r3, hr3, h⟩ := h
        refine ev_gR dX10_count_75 fl_X10_32 hr3 rfl ?_
        replace h := Option.bind_eq_some_iff.mp h; obtain ⟨r4, hr4, h⟩ := h
        refine ev_gI dX10_count_78 fl_X10_86 hr4 rfl ?_
        replace h := Option.bind_eq_some_iff.mp h; obtain ⟨r5, hr5, h⟩ := h
        refine ev_invS (M1 := M_J6_bitCount_0f7a4) (as := [vi r4]) dX10_count_81 rfl tw_606 cal_J6_bitCount_0f7a4 tw_607 (by decide) rfl rfl (Nat.le_of_ble_eq_true rfl) (met_J6_bitCount_0f7a4 r4 w _ hr5) ?_
        cases h
        exact ev_iret dX10_count_84 rfl rfl
      · rw [if_neg hc2] at h
        by_cases hc3 : v1 = 3
        · rw [if_pos hc3] at h
          refine ev_table_in (q := 85) (off := 84) dX10_count_1 (by rw [hc3]; decide) (by rw [hc3]; decide) (by rw [hc3]; rfl) (by decide) ?_
          refine ev_aload_n (q := 86) dX10_count_85 rfl rfl ?_
          replace h := Option.bind_eq_some_iff.mp h; obtain ⟨r6, hr6, h⟩ := h
          refine ev_gR dX10_count_86 fl_X10_32 hr6 rfl ?_
          replace h := Option.bind_eq_some_iff.mp h; obtain ⟨r7, hr7, h⟩ := h
          refine ev_gI dX10_count_89 fl_X10_159 hr7 rfl ?_
          cases h
          exact ev_iret dX10_count_92 rfl rfl
        · rw [if_neg hc3] at h
          by_cases hc4 : v1 = 4
          · rw [if_pos hc4] at h
            refine ev_table_in (q := 93) (off := 92) dX10_count_1 (by rw [hc4]; decide) (by rw [hc4]; decide) (by rw [hc4]; rfl) (by decide) ?_
            refine ev_aload_n (q := 94) dX10_count_93 rfl rfl ?_
            replace h := Option.bind_eq_some_iff.mp h; obtain ⟨r8, hr8, h⟩ := h
            refine ev_gR dX10_count_94 fl_X10_32 hr8 rfl ?_
            replace h := Option.bind_eq_some_iff.mp h; obtain ⟨r9, hr9, h⟩ := h
            refine ev_gI dX10_count_97 fl_X10_146 hr9 rfl ?_
            refine ev_iconst (q := 101) (v := (1 : Int32)) dX10_count_100 rfl (by decide) ?_
            refine ev_iadd (q := 102) dX10_count_101 rfl ?_
            cases h
            exact ev_iret dX10_count_102 rfl rfl
          · rw [if_neg hc4] at h
            by_cases hc5 : v1 = 5
            · rw [if_pos hc5] at h
              refine ev_table_in (q := 103) (off := 102) dX10_count_1 (by rw [hc5]; decide) (by rw [hc5]; decide) (by rw [hc5]; rfl) (by decide) ?_
              refine ev_aload_n (q := 104) dX10_count_103 rfl rfl ?_
              replace h := Option.bind_eq_some_iff.mp h; obtain ⟨r10, hr10, h⟩ := h
              refine ev_gR dX10_count_104 fl_X10_32 hr10 rfl ?_
              replace h := Option.bind_eq_some_iff.mp h; obtain ⟨r11, hr11, h⟩ := h
              refine ev_gI dX10_count_107 fl_X10_176 hr11 rfl ?_
              cases h
              exact ev_iret dX10_count_110 rfl rfl
            · rw [if_neg hc5] at h
              by_cases hc6 : v1 = 6
              · rw [if_pos hc6] at h
                refine ev_table_in (q := 111) (off := 110) dX10_count_1 (by rw [hc6]; decide) (by rw [hc6]; decide) (by rw [hc6]; rfl) (by decide) ?_
                refine ev_aload_n (q := 112) dX10_count_111 rfl rfl ?_
                replace h := Option.bind_eq_some_iff.mp h; obtain ⟨r12, hr12, h⟩ := h
                refine ev_gR dX10_count_112 fl_X10_32 hr12 rfl ?_
                replace h := Option.bind_eq_some_iff.mp h; obtain ⟨r13, hr13, h⟩ := h
                refine ev_gR dX10_count_115 fl_X10_89 hr13 rfl ?_
                replace h := Option.bind_eq_some_iff.mp h; obtain ⟨r14, hr14, h⟩ := h
                refine ev_invS (M1 := M_X10_sum) (as := [vr r13]) dX10_count_118 rfl tw_802 cal_X10_sum tw_803 (by decide) rfl rfl (Nat.le_of_ble_eq_true rfl) (met_X10_sum r13 w _ hr14) ?_
                cases h
                exact ev_iret dX10_count_121 rfl rfl
              · rw [if_neg hc6] at h
                by_cases hc7 : v1 = 7
                · rw [if_pos hc7] at h
                  refine ev_table_in (q := 122) (off := 121) dX10_count_1 (by rw [hc7]; decide) (by rw [hc7]; decide) (by rw [hc7]; rfl) (by decide) ?_
                  refine ev_aload_n (q := 123) dX10_count_122 rfl rfl ?_
                  replace h := Option.bind_eq_some_iff.mp h; obtain ⟨r15, hr15, h⟩ := h
                  refine ev_gR dX10_count_123 fl_X10_32 hr15 rfl ?_
                  replace h := Option.bind_eq_some_iff.mp h; obtain ⟨r16, hr16, h⟩ := h
                  refine ev_gR dX10_count_126 fl_X10_92 hr16 rfl ?_
                  replace h := Option.bind_eq_some_iff.mp h; obtain ⟨r17, hr17, h⟩ := h
                  refine ev_invS (M1 := M_X10_sum) (as := [vr r16]) dX10_count_129 rfl tw_802 cal_X10_sum tw_803 (by decide) rfl rfl (Nat.le_of_ble_eq_true rfl) (met_X10_sum r16 w _ hr17) ?_
                  cases h
                  exact ev_iret dX10_count_132 rfl rfl
                · rw [if_neg hc7] at h
                  by_cases hc8 : v1 = 8
                  · rw [if_pos hc8] at h
                    refine ev_table_in (q := 133) (off := 132) dX10_count_1 (by rw [hc8]; decide) (by rw [hc8]; decide) (by rw [hc8]; rfl) (by decide) ?_
                    refine ev_aload_n (q := 134) dX10_count_133 rfl rfl ?_
                    replace h := Option.bind_eq_some_iff.mp h; obtain ⟨r18, hr18, h⟩ := h
                    refine ev_gR dX10_count_134 fl_X10_32 hr18 rfl ?_
                    replace h := Option.bind_eq_some_iff.mp h; obtain ⟨r19, hr19, h⟩ := h
                    refine ev_gI dX10_count_137 fl_X10_161 hr19 rfl ?_
                    cases h
                    exact ev_iret dX10_count_140 rfl rfl
                  · rw [if_neg hc8] at h
                    by_cases hc9 : v1 = 9
                    · rw [if_pos hc9] at h
                      refine ev_table_in (q := 141) (off := 140) dX10_count_1 (by rw [hc9]; decide) (by rw [hc9]; decide) (by rw [hc9]; rfl) (by decide) ?_
                      refine ev_aload_n (q := 142) dX10_count_141 rfl rfl ?_
                      replace h := Option.bind_eq_some_iff.mp h; obtain ⟨r20, hr20, h⟩ := h
                      refine ev_gR dX10_count_142 fl_X10_32 hr20 rfl ?_
                      replace h := Option.bind_eq_some_iff.mp h; obtain ⟨r21, hr21, h⟩ := h
                      refine ev_gR dX10_count_145 fl_X10_123 hr21 rfl ?_
                      replace h := Option.bind_eq_some_iff.mp h; obtain ⟨r22, hr22, h⟩ := h
                      refine ev_gI dX10_count_148 fl_X10_206 hr22 rfl ?_
                      cases h
                      exact ev_iret dX10_count_151 rfl rfl
                    · rw [if_neg hc9] at h
                      by_cases hc10 : v1 = 10
                      · rw [if_pos hc10] at h
                        refine ev_table_in (q := 152) (off := 151) dX10_count_1 (by rw [hc10]; decide) (by rw [hc10]; decide) (by rw [hc10]; rfl) (by decide) ?_
                        refine ev_aload_n (q := 153) dX10_count_152 rfl rfl ?_
                        replace h := Option.bind_eq_some_iff.mp h; obtain ⟨r23, hr23, h⟩ := h
                        refine ev_gR dX10_count_153 fl_X10_10 hr23 rfl ?_
                        replace h := Option.bind_eq_some_iff.mp h; obtain ⟨r24, hr24, h⟩ := h
                        refine ev_gI dX10_count_156 fl_X10_50 hr24 rfl ?_
                        cases h
                        exact ev_iret dX10_count_159 rfl rfl
                      · rw [if_neg hc10] at h
                        by_cases hc11 : v1 = 11
                        · rw [if_pos hc11] at h
                          refine ev_table_in (q := 160) (off := 159) dX10_count_1 (by rw [hc11]; decide) (by rw [hc11]; decide) (by rw [hc11]; rfl) (by decide) ?_
                          refine ev_aload_n (q := 161) dX10_count_160 rfl rfl ?_
                          replace h := Option.bind_eq_some_iff.mp h; obtain ⟨r25, hr25, h⟩ := h
                          refine ev_gI dX10_count_161 fl_X10_69 hr25 rfl ?_
                          cases h
                          exact ev_iret dX10_count_164 rfl rfl
                        · rw [if_neg hc11] at h
                          refine ev_table_out (q := 165) dX10_count_1 (by have z0 := mNe (z := 0) (by decide) hc0; have z1 := mNe (z := 1) (by decide) hc1; have z2 := mNe (z := 2) (by decide) hc2; have z3 := mNe (z := 3) (by decide) hc3; have z4 := mNe (z := 4) (by decide) hc4; have z5 := mNe (z := 5) (by decide) hc5; have z6 := mNe (z := 6) (by decide) hc6; have z7 := mNe (z := 7) (by decide) hc7; have z8 := mNe (z := 8) (by decide) hc8; have z9 := mNe (z := 9) (by decide) hc9; have z10 := mNe (z := 10) (by decide) hc10; have z11 := mNe (z := 11) (by decide) hc11; omega) (by decide) ?_
                          refine ev_bipush (q := 167) (v := (-102 : Int32)) dX10_count_165 rfl (by decide) ?_
                          cases h
                          exact ev_iret dX10_count_167 rfl rfl
def f_X10_isCell_J22 (s0 : Int32) (w : mW) : Option (Int32) := if s0 = 0 ∨ s0 = 1 then some (s0) else none
set_option maxRecDepth 100000 in
set_option maxHeartbeats 4000000 in
theorem e_X10_isCell_J22 {X : mXs} (s0 : Int32) (w : mW) (res : Int32) (h : f_X10_isCell_J22 s0 w = some res) : mEv X M_X10_isCell 1 (some (vi res)) w 22 [none, none] [vi s0] w := by
  unfold f_X10_isCell_J22 at h
  by_cases hz : s0 = 0 ∨ s0 = 1
  · rw [if_pos hz] at h
    cases h
    exact ev_zret dX10_isCell_22 rfl hz
  · rw [if_neg hz] at h
    cases h
def f_X10_isCell_J21 (w : mW) : Option (Int32) := f_X10_isCell_J22 (0 : Int32) w
set_option maxRecDepth 100000 in
set_option maxHeartbeats 4000000 in
theorem e_X10_isCell_J21 {X : mXs} (w : mW) (res : Int32) (h : f_X10_isCell_J21 w = some res) : mEv X M_X10_isCell 1 (some (vi res)) w 21 [none, none] [] w := by
  unfold f_X10_isCell_J21 at h
  refine ev_iconst (q := 22) (v := (0 : Int32)) dX10_isCell_21 rfl (by decide) ?_
  exact ev_weak _ (mLe_none (mLe_none mLe_nil)) (e_X10_isCell_J22 (0 : Int32) w _ h)
def f_X10_isCell (o : Nat) (v1 : Int32) (w : mW) : Option (Int32) := Option.bind (kO w (some o) 10) fun _ => Option.bind (f_X10_hasPort o  w) fun r1 => if r1 = 0 then (f_X10_isCell_J21 w) else (if v1 < 0 then (f_X10_isCell_J21 w) else (if (36 : Int32) ≤ v1 then (f_X10_isCell_J21 w) else (f_X10_isCell_J22 (1 : Int32) w)))
set_option maxRecDepth 100000 in
set_option maxHeartbeats 4000000 in
theorem met_X10_isCell (o : Nat) (v1 : Int32) (w : mW) (res : Int32) (h : f_X10_isCell o v1 w = some res) : mMet M_X10_isCell 1 [vr ((some o)), vi v1] w (some (vi res)) w := by
  refine ev_met (n := 0) (by decide) rfl fun X => ?_
  unfold f_X10_isCell at h
  show mEv X M_X10_isCell 1 _ _ 0 [some (vr ((some o))), some (vi v1)] [] w
  refine ev_aload_n (q := 1) dX10_isCell_0 rfl rfl ?_
  replace h := Option.bind_eq_some_iff.mp h; obtain ⟨q2, hq2, h⟩ := h
  obtain ⟨hxq2, fsq2, hkq2⟩ := kO_spec hq2
  cases hxq2
  replace h := Option.bind_eq_some_iff.mp h; obtain ⟨r1, hr1, h⟩ := h
  refine ev_invV (M1 := M_X10_hasPort) (as := []) (fs := fsq2) (ci := 10) dX10_isCell_1 rfl tw_654 cal_X10_hasPort tw_656 tw_22 (by decide) rfl rfl (Nat.le_of_ble_eq_true rfl) hkq2 rfl (met_X10_hasPort o  w _ hr1) ?_
  by_cases hc : r1 = 0
  · rw [if_pos hc] at h
    refine ev_if_eq_t (q := 21) dX10_isCell_4 (by decide) hc ?_
    exact ev_weak _ (mLe_none (mLe_none mLe_nil)) (e_X10_isCell_J21 w _ h)
  · rw [if_neg hc] at h
    refine ev_if_eq_f (q := 7) (t0 := 21) dX10_isCell_4 (by decide) rfl hc ?_
    refine ev_iload_n (q := 8) dX10_isCell_7 rfl rfl ?_
    by_cases hc : v1 < 0
    · rw [if_pos hc] at h
      refine ev_if_lt_t (q := 21) dX10_isCell_8 (by decide) hc ?_
      exact ev_weak _ (mLe_none (mLe_none mLe_nil)) (e_X10_isCell_J21 w _ h)
    · rw [if_neg hc] at h
      refine ev_if_lt_f (q := 11) (t0 := 21) dX10_isCell_8 (by decide) rfl hc ?_
      refine ev_iload_n (q := 12) dX10_isCell_11 rfl rfl ?_
      refine ev_bipush (q := 14) (v := (36 : Int32)) dX10_isCell_12 rfl (by decide) ?_
      by_cases hc : (36 : Int32) ≤ v1
      · rw [if_pos hc] at h
        refine ev_icmp_ge_t (q := 21) dX10_isCell_14 (by decide) hc ?_
        exact ev_weak _ (mLe_none (mLe_none mLe_nil)) (e_X10_isCell_J21 w _ h)
      · rw [if_neg hc] at h
        refine ev_icmp_ge_f (q := 17) (t0 := 21) dX10_isCell_14 (by decide) rfl hc ?_
        refine ev_iconst (q := 18) (v := (1 : Int32)) dX10_isCell_17 rfl (by decide) ?_
        refine ev_goto (q := 22) dX10_isCell_18 (by decide) ?_
        exact ev_weak _ (mLe_none (mLe_none mLe_nil)) (e_X10_isCell_J22 (1 : Int32) w _ h)
def f_X10_isTakenByAnother_J32 (kc : Int32 → Option ((Int32) ⊕ (Unit))) (o : Nat) (v1 : Int32) (v2 : Int32) (v3 : Int32) (w : mW) : Option ((Int32) ⊕ (Unit)) := kc (v3 + (1 : Int32))
set_option maxRecDepth 100000 in
set_option maxHeartbeats 4000000 in
theorem e_X10_isTakenByAnother_J32 {X : mXs} {r : Option mV} {w' : mW} (P : ((Int32) ⊕ (Unit)) → Prop) (o : Nat) (v1 : Int32) (v2 : Int32) (v3 : Int32) (w : mW) (kc : Int32 → Option ((Int32) ⊕ (Unit))) (hk : ∀ (u3 : Int32) (e : (Int32) ⊕ (Unit)), kc u3 = some e → P e → mEv X M_X10_isTakenByAnother 1 r w' 2 [some (vr ((some o))), some (vi v1), some (vi v2), some (vi u3)] [] w) (e : (Int32) ⊕ (Unit)) (h : f_X10_isTakenByAnother_J32 kc o v1 v2 v3 w = some e) (hP : P e) : mEv X M_X10_isTakenByAnother 1 r w' 32 [some (vr ((some o))), some (vi v1), some (vi v2), some (vi v3)] [] w := by
  unfold f_X10_isTakenByAnother_J32 at h
  refine ev_iinc (q := 35) (v := v3 + (1 : Int32)) dX10_isTakenByAnother_32 rfl (by decide) rfl (by rfl) ?_
  refine ev_goto (q := 2) dX10_isTakenByAnother_35 (by decide) ?_
  exact ev_weak _ (mLe_some (mLe_some (mLe_some (mLe_some mLe_nil)))) (hk (v3 + (1 : Int32)) _ h hP)
def f_X10_isTakenByAnother_L2 (o : Nat) (v1 : Int32) (v2 : Int32) (w : mW) : Nat → Int32 → Option ((Int32) ⊕ (Unit))
  | 0, _ => none
  | n + 1, v3 => Option.bind (gI w (some o) 10 7) fun r1 => if r1 ≤ v3 then (some (.inr ())) else (if v3 = v2 then (f_X10_isTakenByAnother_J32 (f_X10_isTakenByAnother_L2 o v1 v2 w n) o v1 v2 v3 w) else (Option.bind (gR w (some o) 10 3) fun r2 => Option.bind (gR w r2 2 0) fun r3 => Option.bind (f_X10_at r3 v3 w) fun r4 => if r4 = v1 then (some (.inl (1 : Int32))) else (f_X10_isTakenByAnother_J32 (f_X10_isTakenByAnother_L2 o v1 v2 w n) o v1 v2 v3 w)))
set_option maxRecDepth 100000 in
set_option maxHeartbeats 4000000 in
theorem e_X10_isTakenByAnother_L2 {X : mXs} {r : Option mV} {w' : mW} (P : ((Int32) ⊕ (Unit)) → Prop) (o : Nat) (v1 : Int32) (v2 : Int32) (w : mW) (hret : ∀ y, P (.inl y) → r = (some (vi y)) ∧ w' = w) (hexit : ∀ y, P (.inr y) → mEv X M_X10_isTakenByAnother 1 r w' 38 [none, none, none, none] [] w) : ∀ (n : Nat) (v3 : Int32) (e : (Int32) ⊕ (Unit)), f_X10_isTakenByAnother_L2 o v1 v2 w n v3 = some e → P e → mEv X M_X10_isTakenByAnother 1 r w' 2 [some (vr ((some o))), some (vi v1), some (vi v2), some (vi v3)] [] w := by
  intro n
  induction n with
  | zero =>
    intro v3 e h hP
    rw [f_X10_isTakenByAnother_L2] at h
    cases h
  | succ n hk =>
    intro v3 e h hP
    rw [f_X10_isTakenByAnother_L2] at h
    refine ev_iload_n (q := 3) dX10_isTakenByAnother_2 rfl rfl ?_
    refine ev_aload_n (q := 4) dX10_isTakenByAnother_3 rfl rfl ?_
    replace h := Option.bind_eq_some_iff.mp h; obtain ⟨r1, hr1, h⟩ := h
    refine ev_gI dX10_isTakenByAnother_4 fl_X10_72 hr1 rfl ?_
    by_cases hc : r1 ≤ v3
    · rw [if_pos hc] at h
      refine ev_icmp_ge_t (q := 38) dX10_isTakenByAnother_7 (by decide) hc ?_
      cases h
      exact ev_weak _ (mLe_none (mLe_none (mLe_none (mLe_none mLe_nil)))) (hexit _ hP)
    · rw [if_neg hc] at h
      refine ev_icmp_ge_f (q := 10) (t0 := 38) dX10_isTakenByAnother_7 (by decide) rfl hc ?_
      refine ev_iload_n (q := 11) dX10_isTakenByAnother_10 rfl rfl ?_
      refine ev_iload_n (q := 12) dX10_isTakenByAnother_11 rfl rfl ?_
      by_cases hc : v3 = v2
      · rw [if_pos hc] at h
        refine ev_icmp_eq_t (q := 32) dX10_isTakenByAnother_12 (by decide) hc ?_
        exact ev_weak _ (mLe_some (mLe_some (mLe_some (mLe_some mLe_nil)))) (e_X10_isTakenByAnother_J32 P o v1 v2 v3 w _ hk  _ h hP)
      · rw [if_neg hc] at h
        refine ev_icmp_eq_f (q := 15) (t0 := 32) dX10_isTakenByAnother_12 (by decide) rfl hc ?_
        refine ev_aload_n (q := 16) dX10_isTakenByAnother_15 rfl rfl ?_
        replace h := Option.bind_eq_some_iff.mp h; obtain ⟨r2, hr2, h⟩ := h
        refine ev_gR dX10_isTakenByAnother_16 fl_X10_32 hr2 rfl ?_
        replace h := Option.bind_eq_some_iff.mp h; obtain ⟨r3, hr3, h⟩ := h
        refine ev_gR dX10_isTakenByAnother_19 fl_X10_79 hr3 rfl ?_
        refine ev_iload_n (q := 23) dX10_isTakenByAnother_22 rfl rfl ?_
        replace h := Option.bind_eq_some_iff.mp h; obtain ⟨r4, hr4, h⟩ := h
        refine ev_invS (M1 := M_X10_at) (as := [vr r3, vi v3]) dX10_isTakenByAnother_23 rfl tw_460 cal_X10_at tw_308 (by decide) rfl rfl (Nat.le_of_ble_eq_true rfl) (met_X10_at r3 v3 w _ hr4) ?_
        refine ev_iload_n (q := 27) dX10_isTakenByAnother_26 rfl rfl ?_
        by_cases hc : r4 = v1
        · rw [if_pos hc] at h
          refine ev_icmp_ne_f (q := 30) (t0 := 32) dX10_isTakenByAnother_27 (by decide) rfl hc ?_
          refine ev_iconst (q := 31) (v := (1 : Int32)) dX10_isTakenByAnother_30 rfl (by decide) ?_
          cases h
          obtain ⟨hr1, hr2⟩ := hret _ hP
          subst hr1
          subst hr2
          exact ev_zret dX10_isTakenByAnother_31 rfl (Or.inr rfl)
        · rw [if_neg hc] at h
          refine ev_icmp_ne_t (q := 32) dX10_isTakenByAnother_27 (by decide) hc ?_
          exact ev_weak _ (mLe_some (mLe_some (mLe_some (mLe_some mLe_nil)))) (e_X10_isTakenByAnother_J32 P o v1 v2 v3 w _ hk  _ h hP)
def f_X10_isTakenByAnother (o : Nat) (v1 : Int32) (v2 : Int32) (w : mW) : Option (Int32) := Option.bind (f_X10_isTakenByAnother_L2 o v1 v2 w mFuel (0 : Int32)) fun e5 => match e5 with | .inl y7 => some y7 | .inr y6 => some ((0 : Int32))
set_option maxRecDepth 100000 in
set_option maxHeartbeats 4000000 in
theorem met_X10_isTakenByAnother (o : Nat) (v1 : Int32) (v2 : Int32) (w : mW) (res : Int32) (h : f_X10_isTakenByAnother o v1 v2 w = some res) : mMet M_X10_isTakenByAnother 1 [vr ((some o)), vi v1, vi v2] w (some (vi res)) w := by
  refine ev_met (n := 1) (by decide) rfl fun X => ?_
  unfold f_X10_isTakenByAnother at h
  show mEv X M_X10_isTakenByAnother 1 _ _ 0 [some (vr ((some o))), some (vi v1), some (vi v2), none] [] w
  refine ev_iconst (q := 1) (v := (0 : Int32)) dX10_isTakenByAnother_0 rfl (by decide) ?_
  refine ev_istore_n (q := 2) dX10_isTakenByAnother_1 rfl (by decide) ?_
  replace h := Option.bind_eq_some_iff.mp h; obtain ⟨e5, he5, h⟩ := h
  refine ev_weak _ (mLe_some (mLe_some (mLe_some (mLe_some mLe_nil)))) (e_X10_isTakenByAnother_L2 (fun z => e5 = z) o v1 v2 w (fun y7 hq => ?_) (fun y6 hq => ?_) mFuel (0 : Int32) _ he5 rfl)
  · subst hq
    dsimp only at h
    cases h
    exact ⟨rfl, rfl⟩
  · subst hq
    dsimp only at h
    refine ev_iconst (q := 39) (v := (0 : Int32)) dX10_isTakenByAnother_38 rfl (by decide) ?_
    cases h
    exact ev_zret dX10_isTakenByAnother_39 rfl (Or.inl rfl)
def f_X10_landing (o : Nat) (v1 : Int32) (v2 : Int32) (v3 : Int32) (w : mW) : Option (Int32) := Option.bind (gR w (some o) 10 3) fun r1 => Option.bind (gR w r1 2 3) fun r2 => Option.bind (f_X10_at r2 v1 w) fun r3 => Option.bind (gR w (some o) 10 3) fun r4 => Option.bind (gR w r4 2 4) fun r5 => Option.bind (f_X10_at r5 v1 w) fun r6 => Option.bind (f_X10_cellAt (((v2 / (6 : Int32)) + r3) - (2 : Int32)) ((((v2 - v2 / (6 : Int32) * (6 : Int32)) + r6) - (2 : Int32)) + v3) w) fun r7 => some (r7)
set_option maxRecDepth 100000 in
set_option maxHeartbeats 4000000 in
theorem met_X10_landing (o : Nat) (v1 : Int32) (v2 : Int32) (v3 : Int32) (w : mW) (res : Int32) (h : f_X10_landing o v1 v2 v3 w = some res) : mMet M_X10_landing 1 [vr ((some o)), vi v1, vi v2, vi v3] w (some (vi res)) w := by
  refine ev_met (n := 2) (by decide) rfl fun X => ?_
  unfold f_X10_landing at h
  show mEv X M_X10_landing 1 _ _ 0 [some (vr ((some o))), some (vi v1), some (vi v2), some (vi v3), none, none] [] w
  refine ev_iload_n (q := 1) dX10_landing_0 rfl rfl ?_
  refine ev_bipush (q := 3) (v := (6 : Int32)) dX10_landing_1 rfl (by decide) ?_
  refine ev_idiv (q := 4) dX10_landing_3 rfl (by decide) ?_
  refine ev_aload_n (q := 5) dX10_landing_4 rfl rfl ?_
  replace h := Option.bind_eq_some_iff.mp h; obtain ⟨r1, hr1, h⟩ := h
  refine ev_gR dX10_landing_5 fl_X10_32 hr1 rfl ?_
  replace h := Option.bind_eq_some_iff.mp h; obtain ⟨r2, hr2, h⟩ := h
  refine ev_gR dX10_landing_8 fl_X10_107 hr2 rfl ?_
  refine ev_iload_n (q := 12) dX10_landing_11 rfl rfl ?_
  replace h := Option.bind_eq_some_iff.mp h; obtain ⟨r3, hr3, h⟩ := h
  refine ev_invS (M1 := M_X10_at) (as := [vr r2, vi v1]) dX10_landing_12 rfl tw_460 cal_X10_at tw_308 (by decide) rfl rfl (Nat.le_of_ble_eq_true rfl) (met_X10_at r2 v1 w _ hr3) ?_
  refine ev_iadd (q := 16) dX10_landing_15 rfl ?_
  refine ev_iconst (q := 17) (v := (2 : Int32)) dX10_landing_16 rfl (by decide) ?_
  refine ev_isub (q := 18) dX10_landing_17 rfl ?_
  refine ev_istore (q := 20) dX10_landing_18 rfl (by decide) ?_
  refine ev_iload_n (q := 21) dX10_landing_20 rfl rfl ?_
  refine ev_bipush (q := 23) (v := (6 : Int32)) dX10_landing_21 rfl (by decide) ?_
  refine ev_irem (q := 24) dX10_landing_23 rfl (by decide) ?_
  refine ev_aload_n (q := 25) dX10_landing_24 rfl rfl ?_
  replace h := Option.bind_eq_some_iff.mp h; obtain ⟨r4, hr4, h⟩ := h
  refine ev_gR dX10_landing_25 fl_X10_32 hr4 rfl ?_
  replace h := Option.bind_eq_some_iff.mp h; obtain ⟨r5, hr5, h⟩ := h
  refine ev_gR dX10_landing_28 fl_X10_110 hr5 rfl ?_
  refine ev_iload_n (q := 32) dX10_landing_31 rfl rfl ?_
  replace h := Option.bind_eq_some_iff.mp h; obtain ⟨r6, hr6, h⟩ := h
  refine ev_invS (M1 := M_X10_at) (as := [vr r5, vi v1]) dX10_landing_32 rfl tw_460 cal_X10_at tw_308 (by decide) rfl rfl (Nat.le_of_ble_eq_true rfl) (met_X10_at r5 v1 w _ hr6) ?_
  refine ev_iadd (q := 36) dX10_landing_35 rfl ?_
  refine ev_iconst (q := 37) (v := (2 : Int32)) dX10_landing_36 rfl (by decide) ?_
  refine ev_isub (q := 38) dX10_landing_37 rfl ?_
  refine ev_iload_n (q := 39) dX10_landing_38 rfl rfl ?_
  refine ev_iadd (q := 40) dX10_landing_39 rfl ?_
  refine ev_istore (q := 42) dX10_landing_40 rfl (by decide) ?_
  refine ev_iload (q := 44) dX10_landing_42 rfl rfl ?_
  refine ev_iload (q := 46) dX10_landing_44 rfl rfl ?_
  replace h := Option.bind_eq_some_iff.mp h; obtain ⟨r7, hr7, h⟩ := h
  refine ev_invS (M1 := M_X10_cellAt) (as := [vi (((v2 / (6 : Int32)) + r3) - (2 : Int32)), vi ((((v2 - v2 / (6 : Int32) * (6 : Int32)) + r6) - (2 : Int32)) + v3)]) dX10_landing_46 rfl tw_523 cal_X10_cellAt tw_323 (by decide) rfl rfl (Nat.le_of_ble_eq_true rfl) (met_X10_cellAt (((v2 / (6 : Int32)) + r3) - (2 : Int32)) ((((v2 - v2 / (6 : Int32) * (6 : Int32)) + r6) - (2 : Int32)) + v3) w _ hr7) ?_
  cases h
  exact ev_iret dX10_landing_49 rfl rfl
def f_X10_stir_J11 (w : mW) : Option (Int32 × mW) := some (((-102 : Int32), w))
set_option maxRecDepth 100000 in
set_option maxHeartbeats 4000000 in
theorem e_X10_stir_J11 {X : mXs} (w : mW) (res : Int32 × mW) (h : f_X10_stir_J11 w = some res) : mEv X M_X10_stir 1 (some (vi res.1)) res.2 11 [none, none] [] w := by
  unfold f_X10_stir_J11 at h
  refine ev_bipush (q := 13) (v := (-102 : Int32)) dX10_stir_11 rfl (by decide) ?_
  cases h
  exact ev_iret dX10_stir_13 rfl rfl
def f_X10_stir (o : Nat) (v1 : Int32) (w : mW) : Option (Int32 × mW) := if v1 < (1 : Int32) then (f_X10_stir_J11 w) else (if v1 ≤ (60 : Int32) then (Option.bind (kO w (some o) 10) fun _ => Option.bind (f_X10_hasPort o  w) fun r1 => if r1 = 0 then (some (((-103 : Int32), w))) else (Option.bind (gR w (some o) 10 3) fun r3 => Option.bind (gI w r3 2 9) fun r4 => if r4 + v1 ≤ (99 : Int32) then (Option.bind (gR w (some o) 10 3) fun r5 => Option.bind (gI w r5 2 9) fun r6 => Option.bind (pI w r5 2 9 (r6 + v1)) fun w7 => Option.bind (gR w7 (some o) 10 3) fun r8 => Option.bind (gI w7 r8 2 9) fun r9 => some ((r9, w7))) else (some (((-104 : Int32), w))))) else (f_X10_stir_J11 w))
set_option maxRecDepth 100000 in
set_option maxHeartbeats 4000000 in
theorem met_X10_stir (o : Nat) (v1 : Int32) (w : mW) (res : Int32 × mW) (h : f_X10_stir o v1 w = some res) : mMet M_X10_stir 1 [vr ((some o)), vi v1] w (some (vi res.1)) res.2 := by
  refine ev_met (n := 0) (by decide) rfl fun X => ?_
  unfold f_X10_stir at h
  show mEv X M_X10_stir 1 _ _ 0 [some (vr ((some o))), some (vi v1)] [] w
  refine ev_iload_n (q := 1) dX10_stir_0 rfl rfl ?_
  refine ev_iconst (q := 2) (v := (1 : Int32)) dX10_stir_1 rfl (by decide) ?_
  by_cases hc : v1 < (1 : Int32)
  · rw [if_pos hc] at h
    refine ev_icmp_lt_t (q := 11) dX10_stir_2 (by decide) hc ?_
    exact ev_weak _ (mLe_none (mLe_none mLe_nil)) (e_X10_stir_J11 w _ h)
  · rw [if_neg hc] at h
    refine ev_icmp_lt_f (q := 5) (t0 := 11) dX10_stir_2 (by decide) rfl hc ?_
    refine ev_iload_n (q := 6) dX10_stir_5 rfl rfl ?_
    refine ev_bipush (q := 8) (v := (60 : Int32)) dX10_stir_6 rfl (by decide) ?_
    by_cases hc : v1 ≤ (60 : Int32)
    · rw [if_pos hc] at h
      refine ev_icmp_le_t (q := 14) dX10_stir_8 (by decide) hc ?_
      refine ev_aload_n (q := 15) dX10_stir_14 rfl rfl ?_
      replace h := Option.bind_eq_some_iff.mp h; obtain ⟨q2, hq2, h⟩ := h
      obtain ⟨hxq2, fsq2, hkq2⟩ := kO_spec hq2
      cases hxq2
      replace h := Option.bind_eq_some_iff.mp h; obtain ⟨r1, hr1, h⟩ := h
      refine ev_invV (M1 := M_X10_hasPort) (as := []) (fs := fsq2) (ci := 10) dX10_stir_15 rfl tw_654 cal_X10_hasPort tw_656 tw_22 (by decide) rfl rfl (Nat.le_of_ble_eq_true rfl) hkq2 rfl (met_X10_hasPort o  w _ hr1) ?_
      by_cases hc : r1 = 0
      · rw [if_pos hc] at h
        refine ev_if_ne_f (q := 21) (t0 := 24) dX10_stir_18 (by decide) rfl hc ?_
        refine ev_bipush (q := 23) (v := (-103 : Int32)) dX10_stir_21 rfl (by decide) ?_
        cases h
        exact ev_iret dX10_stir_23 rfl rfl
      · rw [if_neg hc] at h
        refine ev_if_ne_t (q := 24) dX10_stir_18 (by decide) hc ?_
        refine ev_aload_n (q := 25) dX10_stir_24 rfl rfl ?_
        replace h := Option.bind_eq_some_iff.mp h; obtain ⟨r3, hr3, h⟩ := h
        refine ev_gR dX10_stir_25 fl_X10_32 hr3 rfl ?_
        replace h := Option.bind_eq_some_iff.mp h; obtain ⟨r4, hr4, h⟩ := h
        refine ev_gI dX10_stir_28 fl_X10_159 hr4 rfl ?_
        refine ev_iload_n (q := 32) dX10_stir_31 rfl rfl ?_
        refine ev_iadd (q := 33) dX10_stir_32 rfl ?_
        refine ev_bipush (q := 35) (v := (99 : Int32)) dX10_stir_33 rfl (by decide) ?_
        by_cases hc : r4 + v1 ≤ (99 : Int32)
        · rw [if_pos hc] at h
          refine ev_icmp_le_t (q := 41) dX10_stir_35 (by decide) hc ?_
          refine ev_aload_n (q := 42) dX10_stir_41 rfl rfl ?_
          replace h := Option.bind_eq_some_iff.mp h; obtain ⟨r5, hr5, h⟩ := h
          refine ev_gR dX10_stir_42 fl_X10_32 hr5 rfl ?_
          refine ev_dup (q := 46) dX10_stir_45 rfl rfl ?_
          replace h := Option.bind_eq_some_iff.mp h; obtain ⟨r6, hr6, h⟩ := h
          refine ev_gI dX10_stir_46 fl_X10_159 hr6 rfl ?_
          refine ev_iload_n (q := 50) dX10_stir_49 rfl rfl ?_
          refine ev_iadd (q := 51) dX10_stir_50 rfl ?_
          replace h := Option.bind_eq_some_iff.mp h; obtain ⟨w7, hw7, h⟩ := h
          refine ev_pI dX10_stir_51 fp_X10_159 hw7 rfl ?_
          refine ev_aload_n (q := 55) dX10_stir_54 rfl rfl ?_
          replace h := Option.bind_eq_some_iff.mp h; obtain ⟨r8, hr8, h⟩ := h
          refine ev_gR dX10_stir_55 fl_X10_32 hr8 rfl ?_
          replace h := Option.bind_eq_some_iff.mp h; obtain ⟨r9, hr9, h⟩ := h
          refine ev_gI dX10_stir_58 fl_X10_159 hr9 rfl ?_
          cases h
          exact ev_iret dX10_stir_61 rfl rfl
        · rw [if_neg hc] at h
          refine ev_icmp_le_f (q := 38) (t0 := 41) dX10_stir_35 (by decide) rfl hc ?_
          refine ev_bipush (q := 40) (v := (-104 : Int32)) dX10_stir_38 rfl (by decide) ?_
          cases h
          exact ev_iret dX10_stir_40 rfl rfl
    · rw [if_neg hc] at h
      refine ev_icmp_le_f (q := 11) (t0 := 14) dX10_stir_8 (by decide) rfl hc ?_
      exact ev_weak _ (mLe_none (mLe_none mLe_nil)) (e_X10_stir_J11 w _ h)
def f_X10_train_J25 (w : mW) : Option (Int32 × mW) := some (((-102 : Int32), w))
set_option maxRecDepth 100000 in
set_option maxHeartbeats 4000000 in
theorem e_X10_train_J25 {X : mXs} (w : mW) (res : Int32 × mW) (h : f_X10_train_J25 w = some res) : mEv X M_X10_train 1 (some (vi res.1)) res.2 25 [none, none, none, none, none] [] w := by
  unfold f_X10_train_J25 at h
  refine ev_bipush (q := 27) (v := (-102 : Int32)) dX10_train_25 rfl (by decide) ?_
  cases h
  exact ev_iret dX10_train_27 rfl rfl
def f_X10_train (o : Nat) (v1 : Int32) (v2 : Int32) (v3 : Int32) (w : mW) : Option (Int32 × mW) := Option.bind (kO w (some o) 10) fun _ => Option.bind (f_X10_tosserAt o v1 w) fun r1 => oC r1 (some (((-101 : Int32), w))) (fun a3 => Option.bind (f_X10_isTurn v2 w) fun r4 => if r4 = 0 then (f_X10_train_J25 w) else (Option.bind (f_X10_isTurn v3 w) fun r5 => if r5 = 0 then (f_X10_train_J25 w) else (Option.bind (gR w (some o) 10 3) fun r6 => Option.bind (gR w r6 2 4) fun r7 => Option.bind (f_X10_at r7 v1 w) fun r8 => Option.bind (gR w (some o) 10 3) fun r9 => Option.bind (gR w r9 2 3) fun r10 => Option.bind (f_X10_put r10 v1 v2 w) fun w11 => Option.bind (gR w11 (some o) 10 3) fun r12 => Option.bind (gR w11 r12 2 4) fun r13 => Option.bind (f_X10_put r13 v1 v3 w11) fun w14 => some ((r8, w14)))))
set_option maxRecDepth 100000 in
set_option maxHeartbeats 4000000 in
theorem met_X10_train (o : Nat) (v1 : Int32) (v2 : Int32) (v3 : Int32) (w : mW) (res : Int32 × mW) (h : f_X10_train o v1 v2 v3 w = some res) : mMet M_X10_train 1 [vr ((some o)), vi v1, vi v2, vi v3] w (some (vi res.1)) res.2 := by
  refine ev_met (n := 1) (by decide) rfl fun X => ?_
  unfold f_X10_train at h
  show mEv X M_X10_train 1 _ _ 0 [some (vr ((some o))), some (vi v1), some (vi v2), some (vi v3), none] [] w
  refine ev_aload_n (q := 1) dX10_train_0 rfl rfl ?_
  refine ev_iload_n (q := 2) dX10_train_1 rfl rfl ?_
  replace h := Option.bind_eq_some_iff.mp h; obtain ⟨q2, hq2, h⟩ := h
  obtain ⟨hxq2, fsq2, hkq2⟩ := kO_spec hq2
  cases hxq2
  replace h := Option.bind_eq_some_iff.mp h; obtain ⟨r1, hr1, h⟩ := h
  refine ev_invV (M1 := M_X10_tosserAt) (as := [vi v1]) (fs := fsq2) (ci := 10) dX10_train_2 rfl tw_515 cal_X10_tosserAt tw_517 tw_12 (by decide) rfl rfl (Nat.le_of_ble_eq_true rfl) hkq2 rfl (met_X10_tosserAt o v1 w _ hr1) ?_
  rcases r1 with _ | a3
  · dsimp only [oC] at h
    refine ev_ifnonnull_f (q := 8) dX10_train_5 rfl ?_
    refine ev_bipush (q := 10) (v := (-101 : Int32)) dX10_train_8 rfl (by decide) ?_
    cases h
    exact ev_iret dX10_train_10 rfl rfl
  · dsimp only [oC] at h
    refine ev_ifnonnull_t (q := 11) dX10_train_5 (by decide) ?_
    refine ev_iload_n (q := 12) dX10_train_11 rfl rfl ?_
    replace h := Option.bind_eq_some_iff.mp h; obtain ⟨r4, hr4, h⟩ := h
    refine ev_invS (M1 := M_X10_isTurn) (as := [vi v2]) dX10_train_12 rfl tw_688 cal_X10_isTurn tw_426 (by decide) rfl rfl (Nat.le_of_ble_eq_true rfl) (met_X10_isTurn v2 w _ hr4) ?_
    by_cases hc : r4 = 0
    · rw [if_pos hc] at h
      refine ev_if_eq_t (q := 25) dX10_train_15 (by decide) hc ?_
      exact ev_weak _ (mLe_none (mLe_none (mLe_none (mLe_none (mLe_none mLe_nil))))) (e_X10_train_J25 w _ h)
    · rw [if_neg hc] at h
      refine ev_if_eq_f (q := 18) (t0 := 25) dX10_train_15 (by decide) rfl hc ?_
      refine ev_iload_n (q := 19) dX10_train_18 rfl rfl ?_
      replace h := Option.bind_eq_some_iff.mp h; obtain ⟨r5, hr5, h⟩ := h
      refine ev_invS (M1 := M_X10_isTurn) (as := [vi v3]) dX10_train_19 rfl tw_688 cal_X10_isTurn tw_426 (by decide) rfl rfl (Nat.le_of_ble_eq_true rfl) (met_X10_isTurn v3 w _ hr5) ?_
      by_cases hc : r5 = 0
      · rw [if_pos hc] at h
        refine ev_if_ne_f (q := 25) (t0 := 28) dX10_train_22 (by decide) rfl hc ?_
        exact ev_weak _ (mLe_none (mLe_none (mLe_none (mLe_none (mLe_none mLe_nil))))) (e_X10_train_J25 w _ h)
      · rw [if_neg hc] at h
        refine ev_if_ne_t (q := 28) dX10_train_22 (by decide) hc ?_
        refine ev_aload_n (q := 29) dX10_train_28 rfl rfl ?_
        replace h := Option.bind_eq_some_iff.mp h; obtain ⟨r6, hr6, h⟩ := h
        refine ev_gR dX10_train_29 fl_X10_32 hr6 rfl ?_
        replace h := Option.bind_eq_some_iff.mp h; obtain ⟨r7, hr7, h⟩ := h
        refine ev_gR dX10_train_32 fl_X10_110 hr7 rfl ?_
        refine ev_iload_n (q := 36) dX10_train_35 rfl rfl ?_
        replace h := Option.bind_eq_some_iff.mp h; obtain ⟨r8, hr8, h⟩ := h
        refine ev_invS (M1 := M_X10_at) (as := [vr r7, vi v1]) dX10_train_36 rfl tw_460 cal_X10_at tw_308 (by decide) rfl rfl (Nat.le_of_ble_eq_true rfl) (met_X10_at r7 v1 w _ hr8) ?_
        refine ev_istore (q := 41) dX10_train_39 rfl (by decide) ?_
        refine ev_aload_n (q := 42) dX10_train_41 rfl rfl ?_
        replace h := Option.bind_eq_some_iff.mp h; obtain ⟨r9, hr9, h⟩ := h
        refine ev_gR dX10_train_42 fl_X10_32 hr9 rfl ?_
        replace h := Option.bind_eq_some_iff.mp h; obtain ⟨r10, hr10, h⟩ := h
        refine ev_gR dX10_train_45 fl_X10_107 hr10 rfl ?_
        refine ev_iload_n (q := 49) dX10_train_48 rfl rfl ?_
        refine ev_iload_n (q := 50) dX10_train_49 rfl rfl ?_
        replace h := Option.bind_eq_some_iff.mp h; obtain ⟨w11, hw11, h⟩ := h
        refine ev_invS (M1 := M_X10_put) (as := [vr r10, vi v1, vi v2]) dX10_train_50 rfl tw_456 cal_X10_put tw_293 (by decide) rfl rfl (Nat.le_of_ble_eq_true rfl) (met_X10_put r10 v1 v2 w _ hw11) ?_
        refine ev_aload_n (q := 54) dX10_train_53 rfl rfl ?_
        replace h := Option.bind_eq_some_iff.mp h; obtain ⟨r12, hr12, h⟩ := h
        refine ev_gR dX10_train_54 fl_X10_32 hr12 rfl ?_
        replace h := Option.bind_eq_some_iff.mp h; obtain ⟨r13, hr13, h⟩ := h
        refine ev_gR dX10_train_57 fl_X10_110 hr13 rfl ?_
        refine ev_iload_n (q := 61) dX10_train_60 rfl rfl ?_
        refine ev_iload_n (q := 62) dX10_train_61 rfl rfl ?_
        replace h := Option.bind_eq_some_iff.mp h; obtain ⟨w14, hw14, h⟩ := h
        refine ev_invS (M1 := M_X10_put) (as := [vr r13, vi v1, vi v3]) dX10_train_62 rfl tw_456 cal_X10_put tw_293 (by decide) rfl rfl (Nat.le_of_ble_eq_true rfl) (met_X10_put r13 v1 v3 w11 _ hw14) ?_
        refine ev_iload (q := 67) dX10_train_65 rfl rfl ?_
        cases h
        exact ev_iret dX10_train_67 rfl rfl
def f_X10_wind_J10 (w : mW) : Option (Int32 × mW) := some (((-102 : Int32), w))
set_option maxRecDepth 100000 in
set_option maxHeartbeats 4000000 in
theorem e_X10_wind_J10 {X : mXs} (w : mW) (res : Int32 × mW) (h : f_X10_wind_J10 w = some res) : mEv X M_X10_wind 1 (some (vi res.1)) res.2 10 [none, none, none] [] w := by
  unfold f_X10_wind_J10 at h
  refine ev_bipush (q := 12) (v := (-102 : Int32)) dX10_wind_10 rfl (by decide) ?_
  cases h
  exact ev_iret dX10_wind_12 rfl rfl
def f_X10_wind (o : Nat) (v1 : Int32) (w : mW) : Option (Int32 × mW) := if v1 < (-1 : Int32) then (f_X10_wind_J10 w) else (if v1 ≤ (1 : Int32) then (Option.bind (kO w (some o) 10) fun _ => Option.bind (f_X10_hasPort o  w) fun r1 => if r1 = 0 then (some (((-103 : Int32), w))) else (Option.bind (gR w (some o) 10 3) fun r3 => Option.bind (gI w r3 2 8) fun r4 => Option.bind (gR w (some o) 10 3) fun r5 => Option.bind (pI w r5 2 8 v1) fun w6 => some ((r4 + (1 : Int32), w6)))) else (f_X10_wind_J10 w))
set_option maxRecDepth 100000 in
set_option maxHeartbeats 4000000 in
theorem met_X10_wind (o : Nat) (v1 : Int32) (w : mW) (res : Int32 × mW) (h : f_X10_wind o v1 w = some res) : mMet M_X10_wind 1 [vr ((some o)), vi v1] w (some (vi res.1)) res.2 := by
  refine ev_met (n := 1) (by decide) rfl fun X => ?_
  unfold f_X10_wind at h
  show mEv X M_X10_wind 1 _ _ 0 [some (vr ((some o))), some (vi v1), none] [] w
  refine ev_iload_n (q := 1) dX10_wind_0 rfl rfl ?_
  refine ev_iconst (q := 2) (v := (-1 : Int32)) dX10_wind_1 rfl (by decide) ?_
  by_cases hc : v1 < (-1 : Int32)
  · rw [if_pos hc] at h
    refine ev_icmp_lt_t (q := 10) dX10_wind_2 (by decide) hc ?_
    exact ev_weak _ (mLe_none (mLe_none (mLe_none mLe_nil))) (e_X10_wind_J10 w _ h)
  · rw [if_neg hc] at h
    refine ev_icmp_lt_f (q := 5) (t0 := 10) dX10_wind_2 (by decide) rfl hc ?_
    refine ev_iload_n (q := 6) dX10_wind_5 rfl rfl ?_
    refine ev_iconst (q := 7) (v := (1 : Int32)) dX10_wind_6 rfl (by decide) ?_
    by_cases hc : v1 ≤ (1 : Int32)
    · rw [if_pos hc] at h
      refine ev_icmp_le_t (q := 13) dX10_wind_7 (by decide) hc ?_
      refine ev_aload_n (q := 14) dX10_wind_13 rfl rfl ?_
      replace h := Option.bind_eq_some_iff.mp h; obtain ⟨q2, hq2, h⟩ := h
      obtain ⟨hxq2, fsq2, hkq2⟩ := kO_spec hq2
      cases hxq2
      replace h := Option.bind_eq_some_iff.mp h; obtain ⟨r1, hr1, h⟩ := h
      refine ev_invV (M1 := M_X10_hasPort) (as := []) (fs := fsq2) (ci := 10) dX10_wind_14 rfl tw_654 cal_X10_hasPort tw_656 tw_22 (by decide) rfl rfl (Nat.le_of_ble_eq_true rfl) hkq2 rfl (met_X10_hasPort o  w _ hr1) ?_
      by_cases hc : r1 = 0
      · rw [if_pos hc] at h
        refine ev_if_ne_f (q := 20) (t0 := 23) dX10_wind_17 (by decide) rfl hc ?_
        refine ev_bipush (q := 22) (v := (-103 : Int32)) dX10_wind_20 rfl (by decide) ?_
        cases h
        exact ev_iret dX10_wind_22 rfl rfl
      · rw [if_neg hc] at h
        refine ev_if_ne_t (q := 23) dX10_wind_17 (by decide) hc ?_
        refine ev_aload_n (q := 24) dX10_wind_23 rfl rfl ?_
        replace h := Option.bind_eq_some_iff.mp h; obtain ⟨r3, hr3, h⟩ := h
        refine ev_gR dX10_wind_24 fl_X10_32 hr3 rfl ?_
        replace h := Option.bind_eq_some_iff.mp h; obtain ⟨r4, hr4, h⟩ := h
        refine ev_gI dX10_wind_27 fl_X10_146 hr4 rfl ?_
        refine ev_iconst (q := 31) (v := (1 : Int32)) dX10_wind_30 rfl (by decide) ?_
        refine ev_iadd (q := 32) dX10_wind_31 rfl ?_
        refine ev_istore_n (q := 33) dX10_wind_32 rfl (by decide) ?_
        refine ev_aload_n (q := 34) dX10_wind_33 rfl rfl ?_
        replace h := Option.bind_eq_some_iff.mp h; obtain ⟨r5, hr5, h⟩ := h
        refine ev_gR dX10_wind_34 fl_X10_32 hr5 rfl ?_
        refine ev_iload_n (q := 38) dX10_wind_37 rfl rfl ?_
        replace h := Option.bind_eq_some_iff.mp h; obtain ⟨w6, hw6, h⟩ := h
        refine ev_pI dX10_wind_38 fp_X10_146 hw6 rfl ?_
        refine ev_iload_n (q := 42) dX10_wind_41 rfl rfl ?_
        cases h
        exact ev_iret dX10_wind_42 rfl rfl
    · rw [if_neg hc] at h
      refine ev_icmp_le_f (q := 10) (t0 := 13) dX10_wind_7 (by decide) rfl hc ?_
      exact ev_weak _ (mLe_none (mLe_none (mLe_none mLe_nil))) (e_X10_wind_J10 w _ h)
def f_X0_spreads_J24 (s0 : Int32) (w : mW) : Option (Int32) := if s0 = 0 ∨ s0 = 1 then some (s0) else none
set_option maxRecDepth 100000 in
set_option maxHeartbeats 4000000 in
theorem e_X0_spreads_J24 {X : mXs} (s0 : Int32) (w : mW) (res : Int32) (h : f_X0_spreads_J24 s0 w = some res) : mEv X M_X0_spreads 1 (some (vi res)) w 24 [none, none, none] [vi s0] w := by
  unfold f_X0_spreads_J24 at h
  by_cases hz : s0 = 0 ∨ s0 = 1
  · rw [if_pos hz] at h
    cases h
    exact ev_zret dX0_spreads_24 rfl hz
  · rw [if_neg hz] at h
    cases h
def f_X0_spreads_J23 (w : mW) : Option (Int32) := f_X0_spreads_J24 (0 : Int32) w
set_option maxRecDepth 100000 in
set_option maxHeartbeats 4000000 in
theorem e_X0_spreads_J23 {X : mXs} (w : mW) (res : Int32) (h : f_X0_spreads_J23 w = some res) : mEv X M_X0_spreads 1 (some (vi res)) w 23 [none, none, none] [] w := by
  unfold f_X0_spreads_J23 at h
  refine ev_iconst (q := 24) (v := (0 : Int32)) dX0_spreads_23 rfl (by decide) ?_
  exact ev_weak _ (mLe_none (mLe_none (mLe_none mLe_nil))) (e_X0_spreads_J24 (0 : Int32) w _ h)
def f_X0_spreads (o : Nat) (v1 : Int32) (v2 : Int32) (w : mW) : Option (Int32) := if (1 : Int32) < (if 0 ≤ v1 then v1 else 0 - v1) then (f_X0_spreads_J23 w) else (if (if 0 ≤ v1 then v1 else 0 - v1) = (if 0 ≤ v2 then v2 else 0 - v2) then (f_X0_spreads_J24 (1 : Int32) w) else (f_X0_spreads_J23 w))
set_option maxRecDepth 100000 in
set_option maxHeartbeats 4000000 in
theorem met_X0_spreads (o : Nat) (v1 : Int32) (v2 : Int32) (w : mW) (res : Int32) (h : f_X0_spreads o v1 v2 w = some res) : mMet M_X0_spreads 1 [vr ((some o)), vi v1, vi v2] w (some (vi res)) w := by
  refine ev_met (n := 0) (by decide) rfl fun X => ?_
  unfold f_X0_spreads at h
  show mEv X M_X0_spreads 1 _ _ 0 [some (vr ((some o))), some (vi v1), some (vi v2)] [] w
  refine ev_iload_n (q := 1) dX0_spreads_0 rfl rfl ?_
  refine ev_mabs (q := 4) dX0_spreads_1 rfl tw_535 tw_536 tw_mathi tw_537 (by decide) (Nat.le_of_ble_eq_true rfl) ?_
  refine ev_iconst (q := 5) (v := (1 : Int32)) dX0_spreads_4 rfl (by decide) ?_
  by_cases hc : (1 : Int32) < (if 0 ≤ v1 then v1 else 0 - v1)
  · rw [if_pos hc] at h
    refine ev_icmp_gt_t (q := 23) dX0_spreads_5 (by decide) hc ?_
    exact ev_weak _ (mLe_none (mLe_none (mLe_none mLe_nil))) (e_X0_spreads_J23 w _ h)
  · rw [if_neg hc] at h
    refine ev_icmp_gt_f (q := 8) (t0 := 23) dX0_spreads_5 (by decide) rfl hc ?_
    refine ev_iload_n (q := 9) dX0_spreads_8 rfl rfl ?_
    refine ev_mabs (q := 12) dX0_spreads_9 rfl tw_535 tw_536 tw_mathi tw_537 (by decide) (Nat.le_of_ble_eq_true rfl) ?_
    refine ev_iload_n (q := 13) dX0_spreads_12 rfl rfl ?_
    refine ev_mabs (q := 16) dX0_spreads_13 rfl tw_535 tw_536 tw_mathi tw_537 (by decide) (Nat.le_of_ble_eq_true rfl) ?_
    by_cases hc : (if 0 ≤ v1 then v1 else 0 - v1) = (if 0 ≤ v2 then v2 else 0 - v2)
    · rw [if_pos hc] at h
      refine ev_icmp_ne_f (q := 19) (t0 := 23) dX0_spreads_16 (by decide) rfl hc ?_
      refine ev_iconst (q := 20) (v := (1 : Int32)) dX0_spreads_19 rfl (by decide) ?_
      refine ev_goto (q := 24) dX0_spreads_20 (by decide) ?_
      exact ev_weak _ (mLe_none (mLe_none (mLe_none mLe_nil))) (e_X0_spreads_J24 (1 : Int32) w _ h)
    · rw [if_neg hc] at h
      refine ev_icmp_ne_t (q := 23) dX0_spreads_16 (by decide) hc ?_
      exact ev_weak _ (mLe_none (mLe_none (mLe_none mLe_nil))) (e_X0_spreads_J23 w _ h)
