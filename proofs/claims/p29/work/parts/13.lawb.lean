def mS (X : mXs) (i : Int32) : Option Int32 := if i.toNatClampNeg < X.1 ∧ ¬ i < 0 then some (X.2 i.toNatClampNeg) else none
theorem ev_mS {X : mXs} {M : mM} {d : Nat} {r : Option mV} {w' : mW} {pc q : Nat} {L : List (Option mV)} {st : List mV} {w : mW} {i v : Int32} (hd : decode M.2.1 pc = .ok (.iaload, 1)) (h : mS X i = some v) (hq : pc + 1 = q) (kk : mEv X M d r w' q L (vi v :: st) w) : mEv X M d r w' pc L (vi i :: vx 0 :: st) w := by
  unfold mS at h
  split at h
  · rename_i hi
    cases h
    exact ev_sld hd hq (vp_in_mk hi) kk
  · cases h

def f_L_after (v0 : Int64) (w : mW) : Option (Int64) := some (((v0 * (1103515245 : Int64)) + (12345 : Int64)) - ((v0 * (1103515245 : Int64)) + (12345 : Int64)) / (2147483648 : Int64) * (2147483648 : Int64))
set_option maxRecDepth 100000 in
set_option maxHeartbeats 4000000 in
theorem met_L_after (v0 : Int64) (w : mW) (res : Int64) (h : f_L_after v0 w = some res) : mMet M_L_after 0 [vl v0] w (some (vl res)) w := by
  refine ev_met (n := 0) (by decide) rfl fun X => ?_
  unfold f_L_after at h
  show mEv X M_L_after 0 _ _ 0 [some (vl v0), none] [] w
  refine ev_lload_n (q := 1) dL_after_0 rfl rfl ?_
  refine ev_ldc2 (q := 4) (v := (1103515245 : Int64)) dL_after_1 rfl tw_730 ?_
  refine ev_lmul (q := 5) dL_after_4 rfl ?_
  refine ev_ldc2 (q := 8) (v := (12345 : Int64)) dL_after_5 rfl tw_731 ?_
  refine ev_ladd (q := 9) dL_after_8 rfl ?_
  refine ev_ldc2 (q := 12) (v := (2147483648 : Int64)) dL_after_9 rfl tw_732 ?_
  refine ev_lrem (q := 13) dL_after_12 rfl (by decide) ?_
  cases h
  exact ev_lret dL_after_13 rfl
def f_L_at (v0 : Int32) (v1 : Int32) (w : mW) : Option (Int32) := if v1 = 0 then none else some (((v0.toUInt32 >>> ((1 : Int32).toUInt32 &&& Int32.toUInt32 31)).toInt32) - ((v0.toUInt32 >>> ((1 : Int32).toUInt32 &&& Int32.toUInt32 31)).toInt32) / v1 * v1)
set_option maxRecDepth 100000 in
set_option maxHeartbeats 4000000 in
theorem met_L_at (v0 : Int32) (v1 : Int32) (w : mW) (res : Int32) (h : f_L_at v0 v1 w = some res) : mMet M_L_at 0 [vi v0, vi v1] w (some (vi res)) w := by
  refine ev_met (n := 0) (by decide) rfl fun X => ?_
  unfold f_L_at at h
  show mEv X M_L_at 0 _ _ 0 [some (vi v0), some (vi v1)] [] w
  refine ev_iload_n (q := 1) dL_at_0 rfl rfl ?_
  refine ev_iconst (q := 2) (v := (1 : Int32)) dL_at_1 rfl (by decide) ?_
  refine ev_iushr (q := 3) dL_at_2 rfl ?_
  refine ev_iload_n (q := 4) dL_at_3 rfl rfl ?_
  split at h
  · cases h
  rename_i h0
  refine ev_irem (q := 5) dL_at_4 rfl h0 ?_
  cases h
  exact ev_iret dL_at_5 rfl rfl
def f_L_bare_J26 (kc : Int32 → Int32 → Option (Int32)) (v0 : Option Nat) (v1 : Option Nat) (v2 : Int32) (v3 : Int32) (w : mW) : Option (Int32) := kc v2 (v3 + (1 : Int32))
set_option maxRecDepth 100000 in
set_option maxHeartbeats 4000000 in
theorem e_L_bare_J26 {X : mXs} {r : Option mV} {w' : mW} (P : (Int32) → Prop) (v0 : Option Nat) (v1 : Option Nat) (v2 : Int32) (v3 : Int32) (w : mW) (kc : Int32 → Int32 → Option (Int32)) (hk : ∀ (u2 : Int32) (u3 : Int32) (e : Int32), kc u2 u3 = some e → P e → mEv X M_L_bare 0 r w' 4 [some (vr v0), some (vr v1), some (vi u2), some (vi u3)] [] w) (e : Int32) (h : f_L_bare_J26 kc v0 v1 v2 v3 w = some e) (hP : P e) : mEv X M_L_bare 0 r w' 26 [some (vr v0), some (vr v1), some (vi v2), some (vi v3)] [] w := by
  unfold f_L_bare_J26 at h
  refine ev_iinc (q := 29) (v := v3 + (1 : Int32)) dL_bare_26 rfl (by decide) rfl (by rfl) ?_
  refine ev_goto (q := 4) dL_bare_29 (by decide) ?_
  exact ev_weak _ (mLe_some (mLe_some (mLe_some (mLe_some mLe_nil)))) (hk v2 (v3 + (1 : Int32)) _ h hP)
def f_L_bare_L4 (v0 : Option Nat) (v1 : Option Nat) (w : mW) : Nat → Int32 → Int32 → Option (Int32)
  | 0, _, _ => none
  | n + 1, v2, v3 => Option.bind (aL w v0 (0 : Int32)) fun r1 => if r1 ≤ v3 then (some (v2)) else (Option.bind (aL w v1 ((6 : Int32) + v3)) fun r2 => if r2 = 0 then (f_L_bare_J26 (f_L_bare_L4 v0 v1 w n) v0 v1 (v2 ||| ((1 : Int32) <<< (v3 &&& 31))) v3 w) else (f_L_bare_J26 (f_L_bare_L4 v0 v1 w n) v0 v1 v2 v3 w))
set_option maxRecDepth 100000 in
set_option maxHeartbeats 4000000 in
theorem e_L_bare_L4 {X : mXs} {r : Option mV} {w' : mW} (P : (Int32) → Prop) (v0 : Option Nat) (v1 : Option Nat) (w : mW) (hexit : ∀ y, P y → mEv X M_L_bare 0 r w' 32 [none, none, some (vi y), none] [] w) : ∀ (n : Nat) (v2 : Int32) (v3 : Int32) (e : Int32), f_L_bare_L4 v0 v1 w n v2 v3 = some e → P e → mEv X M_L_bare 0 r w' 4 [some (vr v0), some (vr v1), some (vi v2), some (vi v3)] [] w := by
  intro n
  induction n with
  | zero =>
    intro v2 v3 e h hP
    rw [f_L_bare_L4] at h
    cases h
  | succ n hk =>
    intro v2 v3 e h hP
    rw [f_L_bare_L4] at h
    refine ev_iload_n (q := 5) dL_bare_4 rfl rfl ?_
    refine ev_aload_n (q := 6) dL_bare_5 rfl rfl ?_
    refine ev_iconst (q := 7) (v := (0 : Int32)) dL_bare_6 rfl (by decide) ?_
    replace h := Option.bind_eq_some_iff.mp h; obtain ⟨r1, hr1, h⟩ := h
    refine ev_aL dL_bare_7 hr1 rfl ?_
    by_cases hc : r1 ≤ v3
    · rw [if_pos hc] at h
      refine ev_icmp_ge_t (q := 32) dL_bare_8 (by decide) hc ?_
      cases h
      exact ev_weak _ (mLe_none (mLe_none (mLe_some (mLe_none mLe_nil)))) (hexit _ hP)
    · rw [if_neg hc] at h
      refine ev_icmp_ge_f (q := 11) (t0 := 32) dL_bare_8 (by decide) rfl hc ?_
      refine ev_aload_n (q := 12) dL_bare_11 rfl rfl ?_
      refine ev_bipush (q := 14) (v := (6 : Int32)) dL_bare_12 rfl (by decide) ?_
      refine ev_iload_n (q := 15) dL_bare_14 rfl rfl ?_
      refine ev_iadd (q := 16) dL_bare_15 rfl ?_
      replace h := Option.bind_eq_some_iff.mp h; obtain ⟨r2, hr2, h⟩ := h
      refine ev_aL dL_bare_16 hr2 rfl ?_
      by_cases hc : r2 = 0
      · rw [if_pos hc] at h
        refine ev_if_ne_f (q := 20) (t0 := 26) dL_bare_17 (by decide) rfl hc ?_
        refine ev_iload_n (q := 21) dL_bare_20 rfl rfl ?_
        refine ev_iconst (q := 22) (v := (1 : Int32)) dL_bare_21 rfl (by decide) ?_
        refine ev_iload_n (q := 23) dL_bare_22 rfl rfl ?_
        refine ev_ishl (q := 24) dL_bare_23 rfl ?_
        refine ev_ior (q := 25) dL_bare_24 rfl ?_
        refine ev_istore_n (q := 26) dL_bare_25 rfl (by decide) ?_
        exact ev_weak _ (mLe_some (mLe_some (mLe_some (mLe_some mLe_nil)))) (e_L_bare_J26 P v0 v1 (v2 ||| ((1 : Int32) <<< (v3 &&& 31))) v3 w _ hk  _ h hP)
      · rw [if_neg hc] at h
        refine ev_if_ne_t (q := 26) dL_bare_17 (by decide) hc ?_
        exact ev_weak _ (mLe_some (mLe_some (mLe_some (mLe_some mLe_nil)))) (e_L_bare_J26 P v0 v1 v2 v3 w _ hk  _ h hP)
def f_L_bare (v0 : Option Nat) (v1 : Option Nat) (w : mW) : Option (Int32) := Option.bind (f_L_bare_L4 v0 v1 w mFuel (0 : Int32) (0 : Int32)) fun e3 => some (e3)
set_option maxRecDepth 100000 in
set_option maxHeartbeats 4000000 in
theorem met_L_bare (v0 : Option Nat) (v1 : Option Nat) (w : mW) (res : Int32) (h : f_L_bare v0 v1 w = some res) : mMet M_L_bare 0 [vr v0, vr v1] w (some (vi res)) w := by
  refine ev_met (n := 2) (by decide) rfl fun X => ?_
  unfold f_L_bare at h
  show mEv X M_L_bare 0 _ _ 0 [some (vr v0), some (vr v1), none, none] [] w
  refine ev_iconst (q := 1) (v := (0 : Int32)) dL_bare_0 rfl (by decide) ?_
  refine ev_istore_n (q := 2) dL_bare_1 rfl (by decide) ?_
  refine ev_iconst (q := 3) (v := (0 : Int32)) dL_bare_2 rfl (by decide) ?_
  refine ev_istore_n (q := 4) dL_bare_3 rfl (by decide) ?_
  replace h := Option.bind_eq_some_iff.mp h; obtain ⟨e3, he3, h⟩ := h
  refine ev_weak _ (mLe_some (mLe_some (mLe_some (mLe_some mLe_nil)))) (e_L_bare_L4 (fun z => e3 = z) v0 v1 w (fun e3q hq => ?_) mFuel (0 : Int32) (0 : Int32) _ he3 rfl)
  subst hq
  refine ev_iload_n (q := 33) dL_bare_32 rfl rfl ?_
  cases h
  exact ev_iret dL_bare_33 rfl rfl
def f_L_batter_J36 (s0 : Int32) (w : mW) : Option (Int32) := some (s0)
set_option maxRecDepth 100000 in
set_option maxHeartbeats 4000000 in
theorem e_L_batter_J36 {X : mXs} (s0 : Int32) (w : mW) (res : Int32) (h : f_L_batter_J36 s0 w = some res) : mEv X M_L_batter 0 (some (vi res)) w 36 [none] [vi s0] w := by
  unfold f_L_batter_J36 at h
  cases h
  exact ev_iret dL_batter_36 rfl rfl
def f_L_batter (v0 : Int32) (w : mW) : Option (Int32) := if v0 = 0 then (f_L_batter_J36 (3 : Int32) w) else (if v0 = (1 : Int32) then (f_L_batter_J36 (2 : Int32) w) else (if v0 = (2 : Int32) then (f_L_batter_J36 (5 : Int32) w) else (if v0 = (3 : Int32) then (f_L_batter_J36 (1 : Int32) w) else (f_L_batter_J36 (4 : Int32) w))))
set_option maxRecDepth 100000 in
set_option maxHeartbeats 4000000 in
theorem met_L_batter (v0 : Int32) (w : mW) (res : Int32) (h : f_L_batter v0 w = some res) : mMet M_L_batter 0 [vi v0] w (some (vi res)) w := by
  refine ev_met (n := 0) (by decide) rfl fun X => ?_
  unfold f_L_batter at h
  show mEv X M_L_batter 0 _ _ 0 [some (vi v0)] [] w
  refine ev_iload_n (q := 1) dL_batter_0 rfl rfl ?_
  by_cases hc : v0 = 0
  · rw [if_pos hc] at h
    refine ev_if_ne_f (q := 4) (t0 := 8) dL_batter_1 (by decide) rfl hc ?_
    refine ev_iconst (q := 5) (v := (3 : Int32)) dL_batter_4 rfl (by decide) ?_
    refine ev_goto (q := 36) dL_batter_5 (by decide) ?_
    exact ev_weak _ (mLe_none mLe_nil) (e_L_batter_J36 (3 : Int32) w _ h)
  · rw [if_neg hc] at h
    refine ev_if_ne_t (q := 8) dL_batter_1 (by decide) hc ?_
    refine ev_iload_n (q := 9) dL_batter_8 rfl rfl ?_
    refine ev_iconst (q := 10) (v := (1 : Int32)) dL_batter_9 rfl (by decide) ?_
    by_cases hc : v0 = (1 : Int32)
    · rw [if_pos hc] at h
      refine ev_icmp_ne_f (q := 13) (t0 := 17) dL_batter_10 (by decide) rfl hc ?_
      refine ev_iconst (q := 14) (v := (2 : Int32)) dL_batter_13 rfl (by decide) ?_
      refine ev_goto (q := 36) dL_batter_14 (by decide) ?_
      exact ev_weak _ (mLe_none mLe_nil) (e_L_batter_J36 (2 : Int32) w _ h)
    · rw [if_neg hc] at h
      refine ev_icmp_ne_t (q := 17) dL_batter_10 (by decide) hc ?_
      refine ev_iload_n (q := 18) dL_batter_17 rfl rfl ?_
      refine ev_iconst (q := 19) (v := (2 : Int32)) dL_batter_18 rfl (by decide) ?_
      by_cases hc : v0 = (2 : Int32)
      · rw [if_pos hc] at h
        refine ev_icmp_ne_f (q := 22) (t0 := 26) dL_batter_19 (by decide) rfl hc ?_
        refine ev_iconst (q := 23) (v := (5 : Int32)) dL_batter_22 rfl (by decide) ?_
        refine ev_goto (q := 36) dL_batter_23 (by decide) ?_
        exact ev_weak _ (mLe_none mLe_nil) (e_L_batter_J36 (5 : Int32) w _ h)
      · rw [if_neg hc] at h
        refine ev_icmp_ne_t (q := 26) dL_batter_19 (by decide) hc ?_
        refine ev_iload_n (q := 27) dL_batter_26 rfl rfl ?_
        refine ev_iconst (q := 28) (v := (3 : Int32)) dL_batter_27 rfl (by decide) ?_
        by_cases hc : v0 = (3 : Int32)
        · rw [if_pos hc] at h
          refine ev_icmp_ne_f (q := 31) (t0 := 35) dL_batter_28 (by decide) rfl hc ?_
          refine ev_iconst (q := 32) (v := (1 : Int32)) dL_batter_31 rfl (by decide) ?_
          refine ev_goto (q := 36) dL_batter_32 (by decide) ?_
          exact ev_weak _ (mLe_none mLe_nil) (e_L_batter_J36 (1 : Int32) w _ h)
        · rw [if_neg hc] at h
          refine ev_icmp_ne_t (q := 35) dL_batter_28 (by decide) hc ?_
          refine ev_iconst (q := 36) (v := (4 : Int32)) dL_batter_35 rfl (by decide) ?_
          exact ev_weak _ (mLe_none mLe_nil) (e_L_batter_J36 (4 : Int32) w _ h)
def f_L_cell_J18 (X : mXs) (s0 : Int32) (w : mW) : Option (Int32) := some (s0)
set_option maxRecDepth 100000 in
set_option maxHeartbeats 4000000 in
theorem e_L_cell_J18 {X : mXs} (s0 : Int32) (w : mW) (res : Int32) (h : f_L_cell_J18 X s0 w = some res) : mEv X M_L_cell 0 (some (vi res)) w 18 [none, none] [vi s0] w := by
  unfold f_L_cell_J18 at h
  cases h
  exact ev_iret dL_cell_18 rfl rfl
def f_L_cell (X : mXs) (v1 : Int32) (w : mW) : Option (Int32) := if (Int32.ofNat X.1) ≤ v1 then (f_L_cell_J18 X ((747796405 : Int32) * (v1 + (1 : Int32))) w) else (Option.bind (mS X v1) fun r1 => f_L_cell_J18 X r1 w)
set_option maxRecDepth 100000 in
set_option maxHeartbeats 4000000 in
theorem met_L_cell (X : mXs) (v1 : Int32) (w : mW) (res : Int32) (h : f_L_cell X v1 w = some res) : mMetX X M_L_cell 0 [vx 0, vi v1] w (some (vi res)) w := by
  refine ev_metX (n := 0) (by decide) rfl ?_
  unfold f_L_cell at h
  show mEv X M_L_cell 0 _ _ 0 [some (vx 0), some (vi v1)] [] w
  refine ev_iload_n (q := 1) dL_cell_0 rfl rfl ?_
  refine ev_aload_n (q := 2) dL_cell_1 rfl rfl ?_
  refine ev_slen (q := 3) dL_cell_2 rfl ?_
  by_cases hc : (Int32.ofNat X.1) ≤ v1
  · rw [if_pos hc] at h
    refine ev_icmp_ge_t (q := 12) dL_cell_3 (by decide) hc ?_
    refine ev_ldc (q := 14) (v := (747796405 : Int32)) dL_cell_12 rfl tw_658 ?_
    refine ev_iload_n (q := 15) dL_cell_14 rfl rfl ?_
    refine ev_iconst (q := 16) (v := (1 : Int32)) dL_cell_15 rfl (by decide) ?_
    refine ev_iadd (q := 17) dL_cell_16 rfl ?_
    refine ev_imul (q := 18) dL_cell_17 rfl ?_
    exact ev_weak _ (mLe_none (mLe_none mLe_nil)) (e_L_cell_J18 ((747796405 : Int32) * (v1 + (1 : Int32))) w _ h)
  · rw [if_neg hc] at h
    refine ev_icmp_ge_f (q := 6) (t0 := 12) dL_cell_3 (by decide) rfl hc ?_
    refine ev_aload_n (q := 7) dL_cell_6 rfl rfl ?_
    refine ev_iload_n (q := 8) dL_cell_7 rfl rfl ?_
    replace h := Option.bind_eq_some_iff.mp h; obtain ⟨r1, hr1, h⟩ := h
    refine ev_mS dL_cell_8 hr1 rfl ?_
    refine ev_goto (q := 18) dL_cell_9 (by decide) ?_
    exact ev_weak _ (mLe_none (mLe_none mLe_nil)) (e_L_cell_J18 r1 w _ h)
def f_L_in_J14 (s0 : Int32) (w : mW) : Option (Int32) := if s0 = 0 ∨ s0 = 1 then some (s0) else none
set_option maxRecDepth 100000 in
set_option maxHeartbeats 4000000 in
theorem e_L_in_J14 {X : mXs} (s0 : Int32) (w : mW) (res : Int32) (h : f_L_in_J14 s0 w = some res) : mEv X M_L_in 0 (some (vi res)) w 14 [none, none] [vi s0] w := by
  unfold f_L_in_J14 at h
  by_cases hz : s0 = 0 ∨ s0 = 1
  · rw [if_pos hz] at h
    cases h
    exact ev_zret dL_in_14 rfl hz
  · rw [if_neg hz] at h
    cases h
def f_L_in (v0 : Int32) (v1 : Int32) (w : mW) : Option (Int32) := if (v0 >>> (v1 &&& 31)) &&& (1 : Int32) = (1 : Int32) then (f_L_in_J14 (1 : Int32) w) else (f_L_in_J14 (0 : Int32) w)
set_option maxRecDepth 100000 in
set_option maxHeartbeats 4000000 in
theorem met_L_in (v0 : Int32) (v1 : Int32) (w : mW) (res : Int32) (h : f_L_in v0 v1 w = some res) : mMet M_L_in 0 [vi v0, vi v1] w (some (vi res)) w := by
  refine ev_met (n := 0) (by decide) rfl fun X => ?_
  unfold f_L_in at h
  show mEv X M_L_in 0 _ _ 0 [some (vi v0), some (vi v1)] [] w
  refine ev_iload_n (q := 1) dL_in_0 rfl rfl ?_
  refine ev_iload_n (q := 2) dL_in_1 rfl rfl ?_
  refine ev_ishr (q := 3) dL_in_2 rfl ?_
  refine ev_iconst (q := 4) (v := (1 : Int32)) dL_in_3 rfl (by decide) ?_
  refine ev_iand (q := 5) dL_in_4 rfl ?_
  refine ev_iconst (q := 6) (v := (1 : Int32)) dL_in_5 rfl (by decide) ?_
  by_cases hc : (v0 >>> (v1 &&& 31)) &&& (1 : Int32) = (1 : Int32)
  · rw [if_pos hc] at h
    refine ev_icmp_ne_f (q := 9) (t0 := 13) dL_in_6 (by decide) rfl hc ?_
    refine ev_iconst (q := 10) (v := (1 : Int32)) dL_in_9 rfl (by decide) ?_
    refine ev_goto (q := 14) dL_in_10 (by decide) ?_
    exact ev_weak _ (mLe_none (mLe_none mLe_nil)) (e_L_in_J14 (1 : Int32) w _ h)
  · rw [if_neg hc] at h
    refine ev_icmp_ne_t (q := 13) dL_in_6 (by decide) hc ?_
    refine ev_iconst (q := 14) (v := (0 : Int32)) dL_in_13 rfl (by decide) ?_
    exact ev_weak _ (mLe_none (mLe_none mLe_nil)) (e_L_in_J14 (0 : Int32) w _ h)
def f_L_lands_J66 (s0 : Int32) (w : mW) : Option (Int32) := some (s0)
set_option maxRecDepth 100000 in
set_option maxHeartbeats 4000000 in
theorem e_L_lands_J66 {X : mXs} (s0 : Int32) (w : mW) (res : Int32) (h : f_L_lands_J66 s0 w = some res) : mEv X M_L_lands 0 (some (vi res)) w 66 [none, none, none, none, none, none] [vi s0] w := by
  unfold f_L_lands_J66 at h
  cases h
  exact ev_iret dL_lands_66 rfl rfl
def f_L_lands_J54 (w : mW) : Option (Int32) := f_L_lands_J66 (-1 : Int32) w
set_option maxRecDepth 100000 in
set_option maxHeartbeats 4000000 in
theorem e_L_lands_J54 {X : mXs} (w : mW) (res : Int32) (h : f_L_lands_J54 w = some res) : mEv X M_L_lands 0 (some (vi res)) w 54 [none, none, none, none, none, none] [] w := by
  unfold f_L_lands_J54 at h
  refine ev_iconst (q := 55) (v := (-1 : Int32)) dL_lands_54 rfl (by decide) ?_
  refine ev_goto (q := 66) dL_lands_55 (by decide) ?_
  exact ev_weak _ (mLe_none (mLe_none (mLe_none (mLe_none (mLe_none (mLe_none mLe_nil)))))) (e_L_lands_J66 (-1 : Int32) w _ h)
def f_L_lands (v0 : Option Nat) (v1 : Int32) (v2 : Int32) (v3 : Int32) (w : mW) : Option (Int32) := Option.bind (aL w v0 ((24 : Int32) + v1)) fun r1 => Option.bind (aL w v0 ((28 : Int32) + v1)) fun r2 => if ((v2 / (6 : Int32)) + r1) - (2 : Int32) < 0 then (f_L_lands_J54 w) else (if (5 : Int32) < ((v2 / (6 : Int32)) + r1) - (2 : Int32) then (f_L_lands_J54 w) else (if (((v2 - v2 / (6 : Int32) * (6 : Int32)) + r2) - (2 : Int32)) + v3 < 0 then (f_L_lands_J54 w) else (if (((v2 - v2 / (6 : Int32) * (6 : Int32)) + r2) - (2 : Int32)) + v3 ≤ (5 : Int32) then (f_L_lands_J66 (((6 : Int32) * (((v2 / (6 : Int32)) + r1) - (2 : Int32))) + ((((v2 - v2 / (6 : Int32) * (6 : Int32)) + r2) - (2 : Int32)) + v3)) w) else (f_L_lands_J54 w))))
set_option maxRecDepth 100000 in
set_option maxHeartbeats 4000000 in
theorem met_L_lands (v0 : Option Nat) (v1 : Int32) (v2 : Int32) (v3 : Int32) (w : mW) (res : Int32) (h : f_L_lands v0 v1 v2 v3 w = some res) : mMet M_L_lands 0 [vr v0, vi v1, vi v2, vi v3] w (some (vi res)) w := by
  refine ev_met (n := 2) (by decide) rfl fun X => ?_
  unfold f_L_lands at h
  show mEv X M_L_lands 0 _ _ 0 [some (vr v0), some (vi v1), some (vi v2), some (vi v3), none, none] [] w
  refine ev_iload_n (q := 1) dL_lands_0 rfl rfl ?_
  refine ev_bipush (q := 3) (v := (6 : Int32)) dL_lands_1 rfl (by decide) ?_
  refine ev_idiv (q := 4) dL_lands_3 rfl (by decide) ?_
  refine ev_aload_n (q := 5) dL_lands_4 rfl rfl ?_
  refine ev_bipush (q := 7) (v := (24 : Int32)) dL_lands_5 rfl (by decide) ?_
  refine ev_iload_n (q := 8) dL_lands_7 rfl rfl ?_
  refine ev_iadd (q := 9) dL_lands_8 rfl ?_
  replace h := Option.bind_eq_some_iff.mp h; obtain ⟨r1, hr1, h⟩ := h
  refine ev_aL dL_lands_9 hr1 rfl ?_
  refine ev_iadd (q := 11) dL_lands_10 rfl ?_
  refine ev_iconst (q := 12) (v := (2 : Int32)) dL_lands_11 rfl (by decide) ?_
  refine ev_isub (q := 13) dL_lands_12 rfl ?_
  refine ev_istore (q := 15) dL_lands_13 rfl (by decide) ?_
  refine ev_iload_n (q := 16) dL_lands_15 rfl rfl ?_
  refine ev_bipush (q := 18) (v := (6 : Int32)) dL_lands_16 rfl (by decide) ?_
  refine ev_irem (q := 19) dL_lands_18 rfl (by decide) ?_
  refine ev_aload_n (q := 20) dL_lands_19 rfl rfl ?_
  refine ev_bipush (q := 22) (v := (28 : Int32)) dL_lands_20 rfl (by decide) ?_
  refine ev_iload_n (q := 23) dL_lands_22 rfl rfl ?_
  refine ev_iadd (q := 24) dL_lands_23 rfl ?_
  replace h := Option.bind_eq_some_iff.mp h; obtain ⟨r2, hr2, h⟩ := h
  refine ev_aL dL_lands_24 hr2 rfl ?_
  refine ev_iadd (q := 26) dL_lands_25 rfl ?_
  refine ev_iconst (q := 27) (v := (2 : Int32)) dL_lands_26 rfl (by decide) ?_
  refine ev_isub (q := 28) dL_lands_27 rfl ?_
  refine ev_iload_n (q := 29) dL_lands_28 rfl rfl ?_
  refine ev_iadd (q := 30) dL_lands_29 rfl ?_
  refine ev_istore (q := 32) dL_lands_30 rfl (by decide) ?_
  refine ev_iload (q := 34) dL_lands_32 rfl rfl ?_
  by_cases hc : ((v2 / (6 : Int32)) + r1) - (2 : Int32) < 0
  · rw [if_pos hc] at h
    refine ev_if_lt_t (q := 54) dL_lands_34 (by decide) hc ?_
    exact ev_weak _ (mLe_none (mLe_none (mLe_none (mLe_none (mLe_none (mLe_none mLe_nil)))))) (e_L_lands_J54 w _ h)
  · rw [if_neg hc] at h
    refine ev_if_lt_f (q := 37) (t0 := 54) dL_lands_34 (by decide) rfl hc ?_
    refine ev_iload (q := 39) dL_lands_37 rfl rfl ?_
    refine ev_iconst (q := 40) (v := (5 : Int32)) dL_lands_39 rfl (by decide) ?_
    by_cases hc : (5 : Int32) < ((v2 / (6 : Int32)) + r1) - (2 : Int32)
    · rw [if_pos hc] at h
      refine ev_icmp_gt_t (q := 54) dL_lands_40 (by decide) hc ?_
      exact ev_weak _ (mLe_none (mLe_none (mLe_none (mLe_none (mLe_none (mLe_none mLe_nil)))))) (e_L_lands_J54 w _ h)
    · rw [if_neg hc] at h
      refine ev_icmp_gt_f (q := 43) (t0 := 54) dL_lands_40 (by decide) rfl hc ?_
      refine ev_iload (q := 45) dL_lands_43 rfl rfl ?_
      by_cases hc : (((v2 - v2 / (6 : Int32) * (6 : Int32)) + r2) - (2 : Int32)) + v3 < 0
      · rw [if_pos hc] at h
        refine ev_if_lt_t (q := 54) dL_lands_45 (by decide) hc ?_
        exact ev_weak _ (mLe_none (mLe_none (mLe_none (mLe_none (mLe_none (mLe_none mLe_nil)))))) (e_L_lands_J54 w _ h)
      · rw [if_neg hc] at h
        refine ev_if_lt_f (q := 48) (t0 := 54) dL_lands_45 (by decide) rfl hc ?_
        refine ev_iload (q := 50) dL_lands_48 rfl rfl ?_
        refine ev_iconst (q := 51) (v := (5 : Int32)) dL_lands_50 rfl (by decide) ?_
        by_cases hc : (((v2 - v2 / (6 : Int32) * (6 : Int32)) + r2) - (2 : Int32)) + v3 ≤ (5 : Int32)
        · rw [if_pos hc] at h
          refine ev_icmp_le_t (q := 58) dL_lands_51 (by decide) hc ?_
          refine ev_bipush (q := 60) (v := (6 : Int32)) dL_lands_58 rfl (by decide) ?_
          refine ev_iload (q := 62) dL_lands_60 rfl rfl ?_
          refine ev_imul (q := 63) dL_lands_62 rfl ?_
          refine ev_iload (q := 65) dL_lands_63 rfl rfl ?_
          refine ev_iadd (q := 66) dL_lands_65 rfl ?_
          exact ev_weak _ (mLe_none (mLe_none (mLe_none (mLe_none (mLe_none (mLe_none mLe_nil)))))) (e_L_lands_J66 (((6 : Int32) * (((v2 / (6 : Int32)) + r1) - (2 : Int32))) + ((((v2 - v2 / (6 : Int32) * (6 : Int32)) + r2) - (2 : Int32)) + v3)) w _ h)
        · rw [if_neg hc] at h
          refine ev_icmp_le_f (q := 54) (t0 := 58) dL_lands_51 (by decide) rfl hc ?_
          exact ev_weak _ (mLe_none (mLe_none (mLe_none (mLe_none (mLe_none (mLe_none mLe_nil)))))) (e_L_lands_J54 w _ h)
def f_L_over_J132 (s0 : Int32) (w : mW) : Option (Int32) := if s0 = 0 ∨ s0 = 1 then some (s0) else none
set_option maxRecDepth 100000 in
set_option maxHeartbeats 4000000 in
theorem e_L_over_J132 {X : mXs} (s0 : Int32) (w : mW) (res : Int32) (h : f_L_over_J132 s0 w = some res) : mEv X M_L_over 0 (some (vi res)) w 132 [none, none, none, none, none, none] [vi s0] w := by
  unfold f_L_over_J132 at h
  by_cases hz : s0 = 0 ∨ s0 = 1
  · rw [if_pos hz] at h
    cases h
    exact ev_zret dL_over_132 rfl hz
  · rw [if_neg hz] at h
    cases h
def f_L_over_J131 (w : mW) : Option (Int32) := f_L_over_J132 (0 : Int32) w
set_option maxRecDepth 100000 in
set_option maxHeartbeats 4000000 in
theorem e_L_over_J131 {X : mXs} (w : mW) (res : Int32) (h : f_L_over_J131 w = some res) : mEv X M_L_over 0 (some (vi res)) w 131 [none, none, none, none, none, none] [] w := by
  unfold f_L_over_J131 at h
  refine ev_iconst (q := 132) (v := (0 : Int32)) dL_over_131 rfl (by decide) ?_
  exact ev_weak _ (mLe_none (mLe_none (mLe_none (mLe_none (mLe_none (mLe_none mLe_nil)))))) (e_L_over_J132 (0 : Int32) w _ h)
def f_L_over_J112 (w : mW) : Option (Int32) := f_L_over_J132 (0 : Int32) w
set_option maxRecDepth 100000 in
set_option maxHeartbeats 4000000 in
theorem e_L_over_J112 {X : mXs} (w : mW) (res : Int32) (h : f_L_over_J112 w = some res) : mEv X M_L_over 0 (some (vi res)) w 112 [none, none, none, none, none, none] [] w := by
  unfold f_L_over_J112 at h
  refine ev_iconst (q := 113) (v := (0 : Int32)) dL_over_112 rfl (by decide) ?_
  refine ev_goto (q := 132) dL_over_113 (by decide) ?_
  exact ev_weak _ (mLe_none (mLe_none (mLe_none (mLe_none (mLe_none (mLe_none mLe_nil)))))) (e_L_over_J132 (0 : Int32) w _ h)
def f_L_over_J92 (s0 : Int32) (w : mW) : Option (Int32) := if s0 = 0 ∨ s0 = 1 then some (s0) else none
set_option maxRecDepth 100000 in
set_option maxHeartbeats 4000000 in
theorem e_L_over_J92 {X : mXs} (s0 : Int32) (w : mW) (res : Int32) (h : f_L_over_J92 s0 w = some res) : mEv X M_L_over 0 (some (vi res)) w 92 [none, none, none, none, none, none] [vi s0] w := by
  unfold f_L_over_J92 at h
  by_cases hz : s0 = 0 ∨ s0 = 1
  · rw [if_pos hz] at h
    cases h
    exact ev_zret dL_over_92 rfl hz
  · rw [if_neg hz] at h
    cases h
def f_L_over_J75 (s0 : Int32) (w : mW) : Option (Int32) := if s0 = 0 ∨ s0 = 1 then some (s0) else none
set_option maxRecDepth 100000 in
set_option maxHeartbeats 4000000 in
theorem e_L_over_J75 {X : mXs} (s0 : Int32) (w : mW) (res : Int32) (h : f_L_over_J75 s0 w = some res) : mEv X M_L_over 0 (some (vi res)) w 75 [none, none, none, none, none, none] [vi s0] w := by
  unfold f_L_over_J75 at h
  by_cases hz : s0 = 0 ∨ s0 = 1
  · rw [if_pos hz] at h
    cases h
    exact ev_zret dL_over_75 rfl hz
  · rw [if_neg hz] at h
    cases h
def f_L_over_J70 (w : mW) : Option (Int32) := f_L_over_J75 (1 : Int32) w
set_option maxRecDepth 100000 in
set_option maxHeartbeats 4000000 in
theorem e_L_over_J70 {X : mXs} (w : mW) (res : Int32) (h : f_L_over_J70 w = some res) : mEv X M_L_over 0 (some (vi res)) w 70 [none, none, none, none, none, none] [] w := by
  unfold f_L_over_J70 at h
  refine ev_iconst (q := 71) (v := (1 : Int32)) dL_over_70 rfl (by decide) ?_
  refine ev_goto (q := 75) dL_over_71 (by decide) ?_
  exact ev_weak _ (mLe_none (mLe_none (mLe_none (mLe_none (mLe_none (mLe_none mLe_nil)))))) (e_L_over_J75 (1 : Int32) w _ h)
def f_L_over_J53 (s0 : Int32) (w : mW) : Option (Int32) := if s0 = 0 ∨ s0 = 1 then some (s0) else none
set_option maxRecDepth 100000 in
set_option maxHeartbeats 4000000 in
theorem e_L_over_J53 {X : mXs} (s0 : Int32) (w : mW) (res : Int32) (h : f_L_over_J53 s0 w = some res) : mEv X M_L_over 0 (some (vi res)) w 53 [none, none, none, none, none, none] [vi s0] w := by
  unfold f_L_over_J53 at h
  by_cases hz : s0 = 0 ∨ s0 = 1
  · rw [if_pos hz] at h
    cases h
    exact ev_zret dL_over_53 rfl hz
  · rw [if_neg hz] at h
    cases h
def f_L_over (v0 : Int32) (v1 : Int32) (v2 : Int32) (w : mW) : Option (Int32) := if 0 ≤ v1 then (if v0 = 0 then (if (2 : Int32) ≤ (((v2 / (6 : Int32)) - (v1 / (6 : Int32))) * ((v2 / (6 : Int32)) - (v1 / (6 : Int32)))) + (((v2 - v2 / (6 : Int32) * (6 : Int32)) - (v1 - v1 / (6 : Int32) * (6 : Int32))) * ((v2 - v2 / (6 : Int32) * (6 : Int32)) - (v1 - v1 / (6 : Int32) * (6 : Int32)))) then (f_L_over_J53 (0 : Int32) w) else (f_L_over_J53 (1 : Int32) w)) else (if v0 = (1 : Int32) then (if (((v2 / (6 : Int32)) - (v1 / (6 : Int32))) * ((v2 / (6 : Int32)) - (v1 / (6 : Int32)))) + (((v2 - v2 / (6 : Int32) * (6 : Int32)) - (v1 - v1 / (6 : Int32) * (6 : Int32))) * ((v2 - v2 / (6 : Int32) * (6 : Int32)) - (v1 - v1 / (6 : Int32) * (6 : Int32)))) = 0 then (f_L_over_J70 w) else (if (((v2 / (6 : Int32)) - (v1 / (6 : Int32))) * ((v2 / (6 : Int32)) - (v1 / (6 : Int32)))) + (((v2 - v2 / (6 : Int32) * (6 : Int32)) - (v1 - v1 / (6 : Int32) * (6 : Int32))) * ((v2 - v2 / (6 : Int32) * (6 : Int32)) - (v1 - v1 / (6 : Int32) * (6 : Int32)))) = (2 : Int32) then (f_L_over_J70 w) else (f_L_over_J75 (0 : Int32) w))) else (if v0 = (2 : Int32) then (if (3 : Int32) ≤ (((v2 / (6 : Int32)) - (v1 / (6 : Int32))) * ((v2 / (6 : Int32)) - (v1 / (6 : Int32)))) + (((v2 - v2 / (6 : Int32) * (6 : Int32)) - (v1 - v1 / (6 : Int32) * (6 : Int32))) * ((v2 - v2 / (6 : Int32) * (6 : Int32)) - (v1 - v1 / (6 : Int32) * (6 : Int32)))) then (f_L_over_J92 (0 : Int32) w) else (f_L_over_J92 (1 : Int32) w)) else (if v0 = (3 : Int32) then (if (v2 / (6 : Int32)) - (v1 / (6 : Int32)) = 0 then (if (2 : Int32) ≤ (((v2 / (6 : Int32)) - (v1 / (6 : Int32))) * ((v2 / (6 : Int32)) - (v1 / (6 : Int32)))) + (((v2 - v2 / (6 : Int32) * (6 : Int32)) - (v1 - v1 / (6 : Int32) * (6 : Int32))) * ((v2 - v2 / (6 : Int32) * (6 : Int32)) - (v1 - v1 / (6 : Int32) * (6 : Int32)))) then (f_L_over_J112 w) else (f_L_over_J132 (1 : Int32) w)) else (f_L_over_J112 w)) else (if (((v2 / (6 : Int32)) - (v1 / (6 : Int32))) * ((v2 / (6 : Int32)) - (v1 / (6 : Int32)))) + (((v2 - v2 / (6 : Int32) * (6 : Int32)) - (v1 - v1 / (6 : Int32) * (6 : Int32))) * ((v2 - v2 / (6 : Int32) * (6 : Int32)) - (v1 - v1 / (6 : Int32) * (6 : Int32)))) ≤ 0 then (f_L_over_J131 w) else (if (3 : Int32) ≤ (((v2 / (6 : Int32)) - (v1 / (6 : Int32))) * ((v2 / (6 : Int32)) - (v1 / (6 : Int32)))) + (((v2 - v2 / (6 : Int32) * (6 : Int32)) - (v1 - v1 / (6 : Int32) * (6 : Int32))) * ((v2 - v2 / (6 : Int32) * (6 : Int32)) - (v1 - v1 / (6 : Int32) * (6 : Int32)))) then (f_L_over_J131 w) else (f_L_over_J132 (1 : Int32) w))))))) else (some ((0 : Int32)))
set_option maxRecDepth 100000 in
set_option maxHeartbeats 4000000 in
theorem met_L_over (v0 : Int32) (v1 : Int32) (v2 : Int32) (w : mW) (res : Int32) (h : f_L_over v0 v1 v2 w = some res) : mMet M_L_over 0 [vi v0, vi v1, vi v2] w (some (vi res)) w := by
  refine ev_met (n := 3) (by decide) rfl fun X => ?_
  unfold f_L_over at h
  show mEv X M_L_over 0 _ _ 0 [some (vi v0), some (vi v1), some (vi v2), none, none, none] [] w
  refine ev_iload_n (q := 1) dL_over_0 rfl rfl ?_
  by_cases hc : 0 ≤ v1
  · rw [if_pos hc] at h
    refine ev_if_ge_t (q := 6) dL_over_1 (by decide) hc ?_
    refine ev_iload_n (q := 7) dL_over_6 rfl rfl ?_
    refine ev_bipush (q := 9) (v := (6 : Int32)) dL_over_7 rfl (by decide) ?_
    refine ev_idiv (q := 10) dL_over_9 rfl (by decide) ?_
    refine ev_iload_n (q := 11) dL_over_10 rfl rfl ?_
    refine ev_bipush (q := 13) (v := (6 : Int32)) dL_over_11 rfl (by decide) ?_
    refine ev_idiv (q := 14) dL_over_13 rfl (by decide) ?_
    refine ev_isub (q := 15) dL_over_14 rfl ?_
    refine ev_istore_n (q := 16) dL_over_15 rfl (by decide) ?_
    refine ev_iload_n (q := 17) dL_over_16 rfl rfl ?_
    refine ev_bipush (q := 19) (v := (6 : Int32)) dL_over_17 rfl (by decide) ?_
    refine ev_irem (q := 20) dL_over_19 rfl (by decide) ?_
    refine ev_iload_n (q := 21) dL_over_20 rfl rfl ?_
    refine ev_bipush (q := 23) (v := (6 : Int32)) dL_over_21 rfl (by decide) ?_
    refine ev_irem (q := 24) dL_over_23 rfl (by decide) ?_
    refine ev_isub (q := 25) dL_over_24 rfl ?_
    refine ev_istore (q := 27) dL_over_25 rfl (by decide) ?_
    refine ev_iload_n (q := 28) dL_over_27 rfl rfl ?_
    refine ev_iload_n (q := 29) dL_over_28 rfl rfl ?_
    refine ev_imul (q := 30) dL_over_29 rfl ?_
    refine ev_iload (q := 32) dL_over_30 rfl rfl ?_
    refine ev_iload (q := 34) dL_over_32 rfl rfl ?_
    refine ev_imul (q := 35) dL_over_34 rfl ?_
    refine ev_iadd (q := 36) dL_over_35 rfl ?_
    refine ev_istore (q := 38) dL_over_36 rfl (by decide) ?_
    refine ev_iload_n (q := 39) dL_over_38 rfl rfl ?_
    by_cases hc : v0 = 0
    · rw [if_pos hc] at h
      refine ev_if_ne_f (q := 42) (t0 := 54) dL_over_39 (by decide) rfl hc ?_
      refine ev_iload (q := 44) dL_over_42 rfl rfl ?_
      refine ev_iconst (q := 45) (v := (2 : Int32)) dL_over_44 rfl (by decide) ?_
      by_cases hc : (2 : Int32) ≤ (((v2 / (6 : Int32)) - (v1 / (6 : Int32))) * ((v2 / (6 : Int32)) - (v1 / (6 : Int32)))) + (((v2 - v2 / (6 : Int32) * (6 : Int32)) - (v1 - v1 / (6 : Int32) * (6 : Int32))) * ((v2 - v2 / (6 : Int32) * (6 : Int32)) - (v1 - v1 / (6 : Int32) * (6 : Int32))))
      · rw [if_pos hc] at h
        refine ev_icmp_ge_t (q := 52) dL_over_45 (by decide) hc ?_
        refine ev_iconst (q := 53) (v := (0 : Int32)) dL_over_52 rfl (by decide) ?_
        exact ev_weak _ (mLe_none (mLe_none (mLe_none (mLe_none (mLe_none (mLe_none mLe_nil)))))) (e_L_over_J53 (0 : Int32) w _ h)
      · rw [if_neg hc] at h
        refine ev_icmp_ge_f (q := 48) (t0 := 52) dL_over_45 (by decide) rfl hc ?_
        refine ev_iconst (q := 49) (v := (1 : Int32)) dL_over_48 rfl (by decide) ?_
        refine ev_goto (q := 53) dL_over_49 (by decide) ?_
        exact ev_weak _ (mLe_none (mLe_none (mLe_none (mLe_none (mLe_none (mLe_none mLe_nil)))))) (e_L_over_J53 (1 : Int32) w _ h)
    · rw [if_neg hc] at h
      refine ev_if_ne_t (q := 54) dL_over_39 (by decide) hc ?_
      refine ev_iload_n (q := 55) dL_over_54 rfl rfl ?_
      refine ev_iconst (q := 56) (v := (1 : Int32)) dL_over_55 rfl (by decide) ?_
      by_cases hc : v0 = (1 : Int32)
      · rw [if_pos hc] at h
        refine ev_icmp_ne_f (q := 59) (t0 := 76) dL_over_56 (by decide) rfl hc ?_
        refine ev_iload (q := 61) dL_over_59 rfl rfl ?_
        by_cases hc : (((v2 / (6 : Int32)) - (v1 / (6 : Int32))) * ((v2 / (6 : Int32)) - (v1 / (6 : Int32)))) + (((v2 - v2 / (6 : Int32) * (6 : Int32)) - (v1 - v1 / (6 : Int32) * (6 : Int32))) * ((v2 - v2 / (6 : Int32) * (6 : Int32)) - (v1 - v1 / (6 : Int32) * (6 : Int32)))) = 0
        · rw [if_pos hc] at h
          refine ev_if_eq_t (q := 70) dL_over_61 (by decide) hc ?_
          exact ev_weak _ (mLe_none (mLe_none (mLe_none (mLe_none (mLe_none (mLe_none mLe_nil)))))) (e_L_over_J70 w _ h)
        · rw [if_neg hc] at h
          refine ev_if_eq_f (q := 64) (t0 := 70) dL_over_61 (by decide) rfl hc ?_
          refine ev_iload (q := 66) dL_over_64 rfl rfl ?_
          refine ev_iconst (q := 67) (v := (2 : Int32)) dL_over_66 rfl (by decide) ?_
          by_cases hc : (((v2 / (6 : Int32)) - (v1 / (6 : Int32))) * ((v2 / (6 : Int32)) - (v1 / (6 : Int32)))) + (((v2 - v2 / (6 : Int32) * (6 : Int32)) - (v1 - v1 / (6 : Int32) * (6 : Int32))) * ((v2 - v2 / (6 : Int32) * (6 : Int32)) - (v1 - v1 / (6 : Int32) * (6 : Int32)))) = (2 : Int32)
          · rw [if_pos hc] at h
            refine ev_icmp_ne_f (q := 70) (t0 := 74) dL_over_67 (by decide) rfl hc ?_
            exact ev_weak _ (mLe_none (mLe_none (mLe_none (mLe_none (mLe_none (mLe_none mLe_nil)))))) (e_L_over_J70 w _ h)
          · rw [if_neg hc] at h
            refine ev_icmp_ne_t (q := 74) dL_over_67 (by decide) hc ?_
            refine ev_iconst (q := 75) (v := (0 : Int32)) dL_over_74 rfl (by decide) ?_
            exact ev_weak _ (mLe_none (mLe_none (mLe_none (mLe_none (mLe_none (mLe_none mLe_nil)))))) (e_L_over_J75 (0 : Int32) w _ h)
      · rw [if_neg hc] at h
        refine ev_icmp_ne_t (q := 76) dL_over_56 (by decide) hc ?_
        refine ev_iload_n (q := 77) dL_over_76 rfl rfl ?_
        refine ev_iconst (q := 78) (v := (2 : Int32)) dL_over_77 rfl (by decide) ?_
        by_cases hc : v0 = (2 : Int32)
        · rw [if_pos hc] at h
          refine ev_icmp_ne_f (q := 81) (t0 := 93) dL_over_78 (by decide) rfl hc ?_
          refine ev_iload (q := 83) dL_over_81 rfl rfl ?_
          refine ev_iconst (q := 84) (v := (3 : Int32)) dL_over_83 rfl (by decide) ?_
          by_cases hc : (3 : Int32) ≤ (((v2 / (6 : Int32)) - (v1 / (6 : Int32))) * ((v2 / (6 : Int32)) - (v1 / (6 : Int32)))) + (((v2 - v2 / (6 : Int32) * (6 : Int32)) - (v1 - v1 / (6 : Int32) * (6 : Int32))) * ((v2 - v2 / (6 : Int32) * (6 : Int32)) - (v1 - v1 / (6 : Int32) * (6 : Int32))))
          · rw [if_pos hc] at h
            refine ev_icmp_ge_t (q := 91) dL_over_84 (by decide) hc ?_
            refine ev_iconst (q := 92) (v := (0 : Int32)) dL_over_91 rfl (by decide) ?_
            exact ev_weak _ (mLe_none (mLe_none (mLe_none (mLe_none (mLe_none (mLe_none mLe_nil)))))) (e_L_over_J92 (0 : Int32) w _ h)
          · rw [if_neg hc] at h
            refine ev_icmp_ge_f (q := 87) (t0 := 91) dL_over_84 (by decide) rfl hc ?_
            refine ev_iconst (q := 88) (v := (1 : Int32)) dL_over_87 rfl (by decide) ?_
            refine ev_goto (q := 92) dL_over_88 (by decide) ?_
            exact ev_weak _ (mLe_none (mLe_none (mLe_none (mLe_none (mLe_none (mLe_none mLe_nil)))))) (e_L_over_J92 (1 : Int32) w _ h)
        · rw [if_neg hc] at h
          refine ev_icmp_ne_t (q := 93) dL_over_78 (by decide) hc ?_
          refine ev_iload_n (q := 94) dL_over_93 rfl rfl ?_
          refine ev_iconst (q := 95) (v := (3 : Int32)) dL_over_94 rfl (by decide) ?_
          by_cases hc : v0 = (3 : Int32)
          · rw [if_pos hc] at h
            refine ev_icmp_ne_f (q := 98) (t0 := 116) dL_over_95 (by decide) rfl hc ?_
            refine ev_iload_n (q := 99) dL_over_98 rfl rfl ?_
            by_cases hc : (v2 / (6 : Int32)) - (v1 / (6 : Int32)) = 0
            · rw [if_pos hc] at h
              refine ev_if_ne_f (q := 102) (t0 := 112) dL_over_99 (by decide) rfl hc ?_
              refine ev_iload (q := 104) dL_over_102 rfl rfl ?_
              refine ev_iconst (q := 105) (v := (2 : Int32)) dL_over_104 rfl (by decide) ?_
              by_cases hc : (2 : Int32) ≤ (((v2 / (6 : Int32)) - (v1 / (6 : Int32))) * ((v2 / (6 : Int32)) - (v1 / (6 : Int32)))) + (((v2 - v2 / (6 : Int32) * (6 : Int32)) - (v1 - v1 / (6 : Int32) * (6 : Int32))) * ((v2 - v2 / (6 : Int32) * (6 : Int32)) - (v1 - v1 / (6 : Int32) * (6 : Int32))))
              · rw [if_pos hc] at h
                refine ev_icmp_ge_t (q := 112) dL_over_105 (by decide) hc ?_
                exact ev_weak _ (mLe_none (mLe_none (mLe_none (mLe_none (mLe_none (mLe_none mLe_nil)))))) (e_L_over_J112 w _ h)
              · rw [if_neg hc] at h
                refine ev_icmp_ge_f (q := 108) (t0 := 112) dL_over_105 (by decide) rfl hc ?_
                refine ev_iconst (q := 109) (v := (1 : Int32)) dL_over_108 rfl (by decide) ?_
                refine ev_goto (q := 132) dL_over_109 (by decide) ?_
                exact ev_weak _ (mLe_none (mLe_none (mLe_none (mLe_none (mLe_none (mLe_none mLe_nil)))))) (e_L_over_J132 (1 : Int32) w _ h)
            · rw [if_neg hc] at h
              refine ev_if_ne_t (q := 112) dL_over_99 (by decide) hc ?_
              exact ev_weak _ (mLe_none (mLe_none (mLe_none (mLe_none (mLe_none (mLe_none mLe_nil)))))) (e_L_over_J112 w _ h)
          · rw [if_neg hc] at h
            refine ev_icmp_ne_t (q := 116) dL_over_95 (by decide) hc ?_
            refine ev_iload (q := 118) dL_over_116 rfl rfl ?_
            by_cases hc : (((v2 / (6 : Int32)) - (v1 / (6 : Int32))) * ((v2 / (6 : Int32)) - (v1 / (6 : Int32)))) + (((v2 - v2 / (6 : Int32) * (6 : Int32)) - (v1 - v1 / (6 : Int32) * (6 : Int32))) * ((v2 - v2 / (6 : Int32) * (6 : Int32)) - (v1 - v1 / (6 : Int32) * (6 : Int32)))) ≤ 0
            · rw [if_pos hc] at h
              refine ev_if_le_t (q := 131) dL_over_118 (by decide) hc ?_
              exact ev_weak _ (mLe_none (mLe_none (mLe_none (mLe_none (mLe_none (mLe_none mLe_nil)))))) (e_L_over_J131 w _ h)
            · rw [if_neg hc] at h
              refine ev_if_le_f (q := 121) (t0 := 131) dL_over_118 (by decide) rfl hc ?_
              refine ev_iload (q := 123) dL_over_121 rfl rfl ?_
              refine ev_iconst (q := 124) (v := (3 : Int32)) dL_over_123 rfl (by decide) ?_
              by_cases hc : (3 : Int32) ≤ (((v2 / (6 : Int32)) - (v1 / (6 : Int32))) * ((v2 / (6 : Int32)) - (v1 / (6 : Int32)))) + (((v2 - v2 / (6 : Int32) * (6 : Int32)) - (v1 - v1 / (6 : Int32) * (6 : Int32))) * ((v2 - v2 / (6 : Int32) * (6 : Int32)) - (v1 - v1 / (6 : Int32) * (6 : Int32))))
              · rw [if_pos hc] at h
                refine ev_icmp_ge_t (q := 131) dL_over_124 (by decide) hc ?_
                exact ev_weak _ (mLe_none (mLe_none (mLe_none (mLe_none (mLe_none (mLe_none mLe_nil)))))) (e_L_over_J131 w _ h)
              · rw [if_neg hc] at h
                refine ev_icmp_ge_f (q := 127) (t0 := 131) dL_over_124 (by decide) rfl hc ?_
                refine ev_iconst (q := 128) (v := (1 : Int32)) dL_over_127 rfl (by decide) ?_
                refine ev_goto (q := 132) dL_over_128 (by decide) ?_
                exact ev_weak _ (mLe_none (mLe_none (mLe_none (mLe_none (mLe_none (mLe_none mLe_nil)))))) (e_L_over_J132 (1 : Int32) w _ h)
  · rw [if_neg hc] at h
    refine ev_if_ge_f (q := 4) (t0 := 6) dL_over_1 (by decide) rfl hc ?_
    refine ev_iconst (q := 5) (v := (0 : Int32)) dL_over_4 rfl (by decide) ?_
    cases h
    exact ev_zret dL_over_5 rfl (Or.inl rfl)
def f_L_size_L4 (v0 : Int32) (w : mW) : Nat → Int32 → Int32 → Option (Int32)
  | 0, _, _ => none
  | n + 1, v1, v2 => if (6 : Int32) ≤ v2 then (some (v1)) else ((f_L_size_L4 v0 w n) (v1 + ((v0 >>> (v2 &&& 31)) &&& (1 : Int32))) (v2 + (1 : Int32)))
set_option maxRecDepth 100000 in
set_option maxHeartbeats 4000000 in
theorem e_L_size_L4 {X : mXs} {r : Option mV} {w' : mW} (P : (Int32) → Prop) (v0 : Int32) (w : mW) (hexit : ∀ y, P y → mEv X M_L_size 0 r w' 24 [none, some (vi y), none] [] w) : ∀ (n : Nat) (v1 : Int32) (v2 : Int32) (e : Int32), f_L_size_L4 v0 w n v1 v2 = some e → P e → mEv X M_L_size 0 r w' 4 [some (vi v0), some (vi v1), some (vi v2)] [] w := by
  intro n
  induction n with
  | zero =>
    intro v1 v2 e h hP
    rw [f_L_size_L4] at h
    cases h
  | succ n hk =>
    intro v1 v2 e h hP
    rw [f_L_size_L4] at h
    refine ev_iload_n (q := 5) dL_size_4 rfl rfl ?_
    refine ev_bipush (q := 7) (v := (6 : Int32)) dL_size_5 rfl (by decide) ?_
    by_cases hc : (6 : Int32) ≤ v2
    · rw [if_pos hc] at h
      refine ev_icmp_ge_t (q := 24) dL_size_7 (by decide) hc ?_
      cases h
      exact ev_weak _ (mLe_none (mLe_some (mLe_none mLe_nil))) (hexit _ hP)
    · rw [if_neg hc] at h
      refine ev_icmp_ge_f (q := 10) (t0 := 24) dL_size_7 (by decide) rfl hc ?_
      refine ev_iload_n (q := 11) dL_size_10 rfl rfl ?_
      refine ev_iload_n (q := 12) dL_size_11 rfl rfl ?_
      refine ev_iload_n (q := 13) dL_size_12 rfl rfl ?_
      refine ev_ishr (q := 14) dL_size_13 rfl ?_
      refine ev_iconst (q := 15) (v := (1 : Int32)) dL_size_14 rfl (by decide) ?_
      refine ev_iand (q := 16) dL_size_15 rfl ?_
      refine ev_iadd (q := 17) dL_size_16 rfl ?_
      refine ev_istore_n (q := 18) dL_size_17 rfl (by decide) ?_
      refine ev_iinc (q := 21) (v := v2 + (1 : Int32)) dL_size_18 rfl (by decide) rfl (by rfl) ?_
      refine ev_goto (q := 4) dL_size_21 (by decide) ?_
      exact ev_weak _ (mLe_some (mLe_some (mLe_some mLe_nil))) (hk (v1 + ((v0 >>> (v2 &&& 31)) &&& (1 : Int32))) (v2 + (1 : Int32)) _ h hP)
def f_L_size (v0 : Int32) (w : mW) : Option (Int32) := Option.bind (f_L_size_L4 v0 w mFuel (0 : Int32) (0 : Int32)) fun e1 => some (e1)
set_option maxRecDepth 100000 in
set_option maxHeartbeats 4000000 in
theorem met_L_size (v0 : Int32) (w : mW) (res : Int32) (h : f_L_size v0 w = some res) : mMet M_L_size 0 [vi v0] w (some (vi res)) w := by
  refine ev_met (n := 2) (by decide) rfl fun X => ?_
  unfold f_L_size at h
  show mEv X M_L_size 0 _ _ 0 [some (vi v0), none, none] [] w
  refine ev_iconst (q := 1) (v := (0 : Int32)) dL_size_0 rfl (by decide) ?_
  refine ev_istore_n (q := 2) dL_size_1 rfl (by decide) ?_
  refine ev_iconst (q := 3) (v := (0 : Int32)) dL_size_2 rfl (by decide) ?_
  refine ev_istore_n (q := 4) dL_size_3 rfl (by decide) ?_
  replace h := Option.bind_eq_some_iff.mp h; obtain ⟨e1, he1, h⟩ := h
  refine ev_weak _ (mLe_some (mLe_some (mLe_some mLe_nil))) (e_L_size_L4 (fun z => e1 = z) v0 w (fun e1q hq => ?_) mFuel (0 : Int32) (0 : Int32) _ he1 rfl)
  subst hq
  refine ev_iload_n (q := 25) dL_size_24 rfl rfl ?_
  cases h
  exact ev_iret dL_size_25 rfl rfl
def f_L_covers_J50 (kc : Int32 → Int32 → Option (Int32)) (v0 : Option Nat) (v1 : Option Nat) (v2 : Int32) (v5 : Int32) (v6 : Int32) (v7 : Int32) (w : mW) : Option (Int32) := kc v6 (v7 + (1 : Int32))
set_option maxRecDepth 100000 in
set_option maxHeartbeats 4000000 in
theorem e_L_covers_J50 {X : mXs} {r : Option mV} {w' : mW} (P : (Int32) → Prop) (v0 : Option Nat) (v1 : Option Nat) (v2 : Int32) (v5 : Int32) (v6 : Int32) (v7 : Int32) (w : mW) (kc : Int32 → Int32 → Option (Int32)) (hk : ∀ (u6 : Int32) (u7 : Int32) (e : Int32), kc u6 u7 = some e → P e → mEv X M_L_covers 1 r w' 16 [some (vr v0), some (vr v1), some (vi v2), none, none, some (vi v5), some (vi u6), some (vi u7)] [] w) (e : Int32) (h : f_L_covers_J50 kc v0 v1 v2 v5 v6 v7 w = some e) (hP : P e) : mEv X M_L_covers 1 r w' 50 [some (vr v0), some (vr v1), some (vi v2), none, none, some (vi v5), some (vi v6), some (vi v7)] [] w := by
  unfold f_L_covers_J50 at h
  refine ev_iinc (q := 53) (v := v7 + (1 : Int32)) dL_covers_50 rfl (by decide) rfl (by rfl) ?_
  refine ev_goto (q := 16) dL_covers_53 (by decide) ?_
  exact ev_weak _ (mLe_some (mLe_some (mLe_some (mLe_none (mLe_none (mLe_some (mLe_some (mLe_some mLe_nil)))))))) (hk v6 (v7 + (1 : Int32)) _ h hP)
def f_L_covers_L16 (v0 : Option Nat) (v1 : Option Nat) (v2 : Int32) (v5 : Int32) (w : mW) : Nat → Int32 → Int32 → Option (Int32)
  | 0, _, _ => none
  | n + 1, v6, v7 => Option.bind (aL w v0 (0 : Int32)) fun r1 => if r1 ≤ v7 then (some (v6)) else (Option.bind (aL w v0 ((2 : Int32) + v2)) fun r2 => Option.bind (aL w v1 v7) fun r3 => Option.bind (f_L_over r2 v5 r3 w) fun r4 => if r4 = 0 then (f_L_covers_J50 (f_L_covers_L16 v0 v1 v2 v5 w n) v0 v1 v2 v5 v6 v7 w) else (f_L_covers_J50 (f_L_covers_L16 v0 v1 v2 v5 w n) v0 v1 v2 v5 (v6 ||| ((1 : Int32) <<< (v7 &&& 31))) v7 w))
set_option maxRecDepth 100000 in
set_option maxHeartbeats 4000000 in
theorem e_L_covers_L16 {X : mXs} {r : Option mV} {w' : mW} (P : (Int32) → Prop) (v0 : Option Nat) (v1 : Option Nat) (v2 : Int32) (v5 : Int32) (w : mW) (hexit : ∀ y, P y → mEv X M_L_covers 1 r w' 56 [none, none, none, none, none, none, some (vi y), none] [] w) : ∀ (n : Nat) (v6 : Int32) (v7 : Int32) (e : Int32), f_L_covers_L16 v0 v1 v2 v5 w n v6 v7 = some e → P e → mEv X M_L_covers 1 r w' 16 [some (vr v0), some (vr v1), some (vi v2), none, none, some (vi v5), some (vi v6), some (vi v7)] [] w := by
  intro n
  induction n with
  | zero =>
    intro v6 v7 e h hP
    rw [f_L_covers_L16] at h
    cases h
  | succ n hk =>
    intro v6 v7 e h hP
    rw [f_L_covers_L16] at h
    refine ev_iload (q := 18) dL_covers_16 rfl rfl ?_
    refine ev_aload_n (q := 19) dL_covers_18 rfl rfl ?_
    refine ev_iconst (q := 20) (v := (0 : Int32)) dL_covers_19 rfl (by decide) ?_
    replace h := Option.bind_eq_some_iff.mp h; obtain ⟨r1, hr1, h⟩ := h
    refine ev_aL dL_covers_20 hr1 rfl ?_
    by_cases hc : r1 ≤ v7
    · rw [if_pos hc] at h
      refine ev_icmp_ge_t (q := 56) dL_covers_21 (by decide) hc ?_
      cases h
      exact ev_weak _ (mLe_none (mLe_none (mLe_none (mLe_none (mLe_none (mLe_none (mLe_some (mLe_none mLe_nil)))))))) (hexit _ hP)
    · rw [if_neg hc] at h
      refine ev_icmp_ge_f (q := 24) (t0 := 56) dL_covers_21 (by decide) rfl hc ?_
      refine ev_aload_n (q := 25) dL_covers_24 rfl rfl ?_
      refine ev_iconst (q := 26) (v := (2 : Int32)) dL_covers_25 rfl (by decide) ?_
      refine ev_iload_n (q := 27) dL_covers_26 rfl rfl ?_
      refine ev_iadd (q := 28) dL_covers_27 rfl ?_
      replace h := Option.bind_eq_some_iff.mp h; obtain ⟨r2, hr2, h⟩ := h
      refine ev_aL dL_covers_28 hr2 rfl ?_
      refine ev_iload (q := 31) dL_covers_29 rfl rfl ?_
      refine ev_aload_n (q := 32) dL_covers_31 rfl rfl ?_
      refine ev_iload (q := 34) dL_covers_32 rfl rfl ?_
      replace h := Option.bind_eq_some_iff.mp h; obtain ⟨r3, hr3, h⟩ := h
      refine ev_aL dL_covers_34 hr3 rfl ?_
      replace h := Option.bind_eq_some_iff.mp h; obtain ⟨r4, hr4, h⟩ := h
      refine ev_invS (M1 := M_L_over) (as := [vi r2, vi v5, vi r3]) dL_covers_35 rfl tw_699 cal_L_over tw_700 (by decide) rfl rfl (Nat.le_of_ble_eq_true rfl) (met_L_over r2 v5 r3 w _ hr4) ?_
      by_cases hc : r4 = 0
      · rw [if_pos hc] at h
        refine ev_if_eq_t (q := 50) dL_covers_38 (by decide) hc ?_
        exact ev_weak _ (mLe_some (mLe_some (mLe_some (mLe_none (mLe_none (mLe_some (mLe_some (mLe_some mLe_nil)))))))) (e_L_covers_J50 P v0 v1 v2 v5 v6 v7 w _ hk  _ h hP)
      · rw [if_neg hc] at h
        refine ev_if_eq_f (q := 41) (t0 := 50) dL_covers_38 (by decide) rfl hc ?_
        refine ev_iload (q := 43) dL_covers_41 rfl rfl ?_
        refine ev_iconst (q := 44) (v := (1 : Int32)) dL_covers_43 rfl (by decide) ?_
        refine ev_iload (q := 46) dL_covers_44 rfl rfl ?_
        refine ev_ishl (q := 47) dL_covers_46 rfl ?_
        refine ev_ior (q := 48) dL_covers_47 rfl ?_
        refine ev_istore (q := 50) dL_covers_48 rfl (by decide) ?_
        exact ev_weak _ (mLe_some (mLe_some (mLe_some (mLe_none (mLe_none (mLe_some (mLe_some (mLe_some mLe_nil)))))))) (e_L_covers_J50 P v0 v1 v2 v5 (v6 ||| ((1 : Int32) <<< (v7 &&& 31))) v7 w _ hk  _ h hP)
def f_L_covers (v0 : Option Nat) (v1 : Option Nat) (v2 : Int32) (v3 : Int32) (v4 : Int32) (w : mW) : Option (Int32) := Option.bind (f_L_lands v1 v2 v3 v4 w) fun r5 => Option.bind (f_L_covers_L16 v0 v1 v2 r5 w mFuel (0 : Int32) (0 : Int32)) fun e6 => some (e6)
set_option maxRecDepth 100000 in
set_option maxHeartbeats 4000000 in
theorem met_L_covers (v0 : Option Nat) (v1 : Option Nat) (v2 : Int32) (v3 : Int32) (v4 : Int32) (w : mW) (res : Int32) (h : f_L_covers v0 v1 v2 v3 v4 w = some res) : mMet M_L_covers 1 [vr v0, vr v1, vi v2, vi v3, vi v4] w (some (vi res)) w := by
  refine ev_met (n := 3) (by decide) rfl fun X => ?_
  unfold f_L_covers at h
  show mEv X M_L_covers 1 _ _ 0 [some (vr v0), some (vr v1), some (vi v2), some (vi v3), some (vi v4), none, none, none] [] w
  refine ev_aload_n (q := 1) dL_covers_0 rfl rfl ?_
  refine ev_iload_n (q := 2) dL_covers_1 rfl rfl ?_
  refine ev_iload_n (q := 3) dL_covers_2 rfl rfl ?_
  refine ev_iload (q := 5) dL_covers_3 rfl rfl ?_
  replace h := Option.bind_eq_some_iff.mp h; obtain ⟨r5, hr5, h⟩ := h
  refine ev_invS (M1 := M_L_lands) (as := [vr v1, vi v2, vi v3, vi v4]) dL_covers_5 rfl tw_696 cal_L_lands tw_697 (by decide) rfl rfl (Nat.le_of_ble_eq_true rfl) (met_L_lands v1 v2 v3 v4 w _ hr5) ?_
  refine ev_istore (q := 10) dL_covers_8 rfl (by decide) ?_
  refine ev_iconst (q := 11) (v := (0 : Int32)) dL_covers_10 rfl (by decide) ?_
  refine ev_istore (q := 13) dL_covers_11 rfl (by decide) ?_
  refine ev_iconst (q := 14) (v := (0 : Int32)) dL_covers_13 rfl (by decide) ?_
  refine ev_istore (q := 16) dL_covers_14 rfl (by decide) ?_
  replace h := Option.bind_eq_some_iff.mp h; obtain ⟨e6, he6, h⟩ := h
  refine ev_weak _ (mLe_some (mLe_some (mLe_some (mLe_none (mLe_none (mLe_some (mLe_some (mLe_some mLe_nil)))))))) (e_L_covers_L16 (fun z => e6 = z) v0 v1 v2 r5 w (fun e6q hq => ?_) mFuel (0 : Int32) (0 : Int32) _ he6 rfl)
  subst hq
  refine ev_iload (q := 58) dL_covers_56 rfl rfl ?_
  cases h
  exact ev_iret dL_covers_58 rfl rfl
def f_L_spell_L2 (v0 : Option Nat) (v1 : Option Nat) (v2 : Int32) : Nat → Int32 → mW → Option ((Int32 × mW) ⊕ (mW))
  | 0, _, _ => none
  | n + 1, v3, w => if v2 ≤ v3 then (some (.inr w)) else (Option.bind (aL w v1 v3) fun r1 => Option.bind (kO w v0 10) fun q3 => Option.bind (f_X10_letter q3 r1 w) fun r2 => if r2.1 = v3 + (1 : Int32) then ((f_L_spell_L2 v0 v1 v2 n) (v3 + (1 : Int32)) r2.2) else (some (.inl ((0 : Int32), r2.2))))
set_option maxRecDepth 100000 in
set_option maxHeartbeats 4000000 in
theorem e_L_spell_L2 {X : mXs} {r : Option mV} {w' : mW} (P : ((Int32 × mW) ⊕ (mW)) → Prop) (v0 : Option Nat) (v1 : Option Nat) (v2 : Int32) (hret : ∀ y, P (.inl y) → r = (some (vi y.1)) ∧ w' = y.2) (hexit : ∀ y, P (.inr y) → mEv X M_L_spell 3 r w' 28 [none, none, none, none] [] y) : ∀ (n : Nat) (v3 : Int32) (w : mW) (e : (Int32 × mW) ⊕ (mW)), f_L_spell_L2 v0 v1 v2 n v3 w = some e → P e → mEv X M_L_spell 3 r w' 2 [some (vr v0), some (vr v1), some (vi v2), some (vi v3)] [] w := by
  intro n
  induction n with
  | zero =>
    intro v3 w e h hP
    rw [f_L_spell_L2] at h
    cases h
  | succ n hk =>
    intro v3 w e h hP
    rw [f_L_spell_L2] at h
    refine ev_iload_n (q := 3) dL_spell_2 rfl rfl ?_
    refine ev_iload_n (q := 4) dL_spell_3 rfl rfl ?_
    by_cases hc : v2 ≤ v3
    · rw [if_pos hc] at h
      refine ev_icmp_ge_t (q := 28) dL_spell_4 (by decide) hc ?_
      cases h
      exact ev_weak _ (mLe_none (mLe_none (mLe_none (mLe_none mLe_nil)))) (hexit _ hP)
    · rw [if_neg hc] at h
      refine ev_icmp_ge_f (q := 7) (t0 := 28) dL_spell_4 (by decide) rfl hc ?_
      refine ev_aload_n (q := 8) dL_spell_7 rfl rfl ?_
      refine ev_aload_n (q := 9) dL_spell_8 rfl rfl ?_
      refine ev_iload_n (q := 10) dL_spell_9 rfl rfl ?_
      replace h := Option.bind_eq_some_iff.mp h; obtain ⟨r1, hr1, h⟩ := h
      refine ev_aL dL_spell_10 hr1 rfl ?_
      replace h := Option.bind_eq_some_iff.mp h; obtain ⟨q3, hq3, h⟩ := h
      obtain ⟨hxq3, fsq3, hkq3⟩ := kO_spec hq3
      subst hxq3
      replace h := Option.bind_eq_some_iff.mp h; obtain ⟨r2, hr2, h⟩ := h
      refine ev_invV (M1 := M_X10_letter) (as := [vi r1]) (fs := fsq3) (ci := 10) dL_spell_11 rfl tw_668 cal_X10_letter tw_669 tw_670 (by decide) rfl rfl (Nat.le_of_ble_eq_true rfl) hkq3 rfl (met_X10_letter q3 r1 w _ hr2) ?_
      refine ev_iload_n (q := 15) dL_spell_14 rfl rfl ?_
      refine ev_iconst (q := 16) (v := (1 : Int32)) dL_spell_15 rfl (by decide) ?_
      refine ev_iadd (q := 17) dL_spell_16 rfl ?_
      by_cases hc : r2.1 = v3 + (1 : Int32)
      · rw [if_pos hc] at h
        refine ev_icmp_eq_t (q := 22) dL_spell_17 (by decide) hc ?_
        refine ev_iinc (q := 25) (v := v3 + (1 : Int32)) dL_spell_22 rfl (by decide) rfl (by rfl) ?_
        refine ev_goto (q := 2) dL_spell_25 (by decide) ?_
        exact ev_weak _ (mLe_some (mLe_some (mLe_some (mLe_some mLe_nil)))) (hk (v3 + (1 : Int32)) r2.2 _ h hP)
      · rw [if_neg hc] at h
        refine ev_icmp_eq_f (q := 20) (t0 := 22) dL_spell_17 (by decide) rfl hc ?_
        refine ev_iconst (q := 21) (v := (0 : Int32)) dL_spell_20 rfl (by decide) ?_
        cases h
        obtain ⟨hr1, hr2⟩ := hret _ hP
        subst hr1
        subst hr2
        exact ev_zret dL_spell_21 rfl (Or.inl rfl)
def f_L_spell (v0 : Option Nat) (v1 : Option Nat) (v2 : Int32) (w : mW) : Option (Int32 × mW) := Option.bind (f_L_spell_L2 v0 v1 v2 mFuel (0 : Int32) w) fun e4 => match e4 with | .inl y6 => some y6 | .inr y5 => some (((1 : Int32), y5))
set_option maxRecDepth 100000 in
set_option maxHeartbeats 4000000 in
theorem met_L_spell (v0 : Option Nat) (v1 : Option Nat) (v2 : Int32) (w : mW) (res : Int32 × mW) (h : f_L_spell v0 v1 v2 w = some res) : mMet M_L_spell 3 [vr v0, vr v1, vi v2] w (some (vi res.1)) res.2 := by
  refine ev_met (n := 1) (by decide) rfl fun X => ?_
  unfold f_L_spell at h
  show mEv X M_L_spell 3 _ _ 0 [some (vr v0), some (vr v1), some (vi v2), none] [] w
  refine ev_iconst (q := 1) (v := (0 : Int32)) dL_spell_0 rfl (by decide) ?_
  refine ev_istore_n (q := 2) dL_spell_1 rfl (by decide) ?_
  replace h := Option.bind_eq_some_iff.mp h; obtain ⟨e4, he4, h⟩ := h
  refine ev_weak _ (mLe_some (mLe_some (mLe_some (mLe_some mLe_nil)))) (e_L_spell_L2 (fun z => e4 = z) v0 v1 v2 (fun y6 hq => ?_) (fun y5 hq => ?_) mFuel (0 : Int32) w _ he4 rfl)
  · subst hq
    dsimp only at h
    cases h
    exact ⟨rfl, rfl⟩
  · subst hq
    dsimp only at h
    refine ev_iconst (q := 29) (v := (1 : Int32)) dL_spell_28 rfl (by decide) ?_
    cases h
    exact ev_zret dL_spell_29 rfl (Or.inr rfl)
