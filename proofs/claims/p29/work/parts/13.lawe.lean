def f_L_does_J690 (s0 : Int32) (w : mW) : Option (Int32 × mW) := if s0 = 0 ∨ s0 = 1 then some ((s0, w)) else none
set_option maxRecDepth 100000 in
set_option maxHeartbeats 4000000 in
theorem e_L_does_J690 {X : mXs} (s0 : Int32) (w : mW) (res : Int32 × mW) (h : f_L_does_J690 s0 w = some res) : mEv X M_L_does 5 (some (vi res.1)) res.2 690 [none, none, none, none, none, none, none, none, none] [vi s0] w := by
  unfold f_L_does_J690 at h
  by_cases hz : s0 = 0 ∨ s0 = 1
  · rw [if_pos hz] at h
    cases h
    exact ev_zret dL_does_690 rfl hz
  · rw [if_neg hz] at h
    cases h
def f_L_does_J662 (s0 : Int32) (w : mW) : Option (Int32 × mW) := if s0 = 0 ∨ s0 = 1 then some ((s0, w)) else none
set_option maxRecDepth 100000 in
set_option maxHeartbeats 4000000 in
theorem e_L_does_J662 {X : mXs} (s0 : Int32) (w : mW) (res : Int32 × mW) (h : f_L_does_J662 s0 w = some res) : mEv X M_L_does 5 (some (vi res.1)) res.2 662 [none, none, none, none, none, none, none, none, none] [vi s0] w := by
  unfold f_L_does_J662 at h
  by_cases hz : s0 = 0 ∨ s0 = 1
  · rw [if_pos hz] at h
    cases h
    exact ev_zret dL_does_662 rfl hz
  · rw [if_neg hz] at h
    cases h
def f_L_does_J628 (v0 : Option Nat) (v2 : Option Nat) (s0 : Int32) (s1 : Int32) (s2 : Int32) (w : mW) : Option (Int32 × mW) := Option.bind (f_L_at s1 s2 w) fun r1 => Option.bind (aL w v2 (37 : Int32)) fun r2 => if r2 + (s0 + r1) ≤ (99 : Int32) then (Option.bind (aL w v2 (37 : Int32)) fun r3 => Option.bind (aS w v2 (37 : Int32) (r3 + (s0 + r1))) fun w4 => Option.bind (kO w4 v0 10) fun q6 => Option.bind (f_X10_stir q6 (s0 + r1) w4) fun r5 => Option.bind (aL r5.2 v2 (37 : Int32)) fun r7 => if r5.1 = r7 then (f_L_does_J690 (1 : Int32) r5.2) else (f_L_does_J690 (0 : Int32) r5.2)) else (Option.bind (kO w v0 10) fun q9 => Option.bind (f_X10_stir q9 (s0 + r1) w) fun r8 => if r8.1 = (-104 : Int32) then (f_L_does_J662 (1 : Int32) r8.2) else (f_L_does_J662 (0 : Int32) r8.2))
set_option maxRecDepth 100000 in
set_option maxHeartbeats 4000000 in
theorem e_L_does_J628 {X : mXs} (v0 : Option Nat) (v2 : Option Nat) (s0 : Int32) (s1 : Int32) (s2 : Int32) (w : mW) (res : Int32 × mW) (h : f_L_does_J628 v0 v2 s0 s1 s2 w = some res) : mEv X M_L_does 5 (some (vi res.1)) res.2 628 [some (vr v0), none, some (vr v2), none, none, none, none, none, none] [vi s2, vi s1, vi s0] w := by
  unfold f_L_does_J628 at h
  replace h := Option.bind_eq_some_iff.mp h; obtain ⟨r1, hr1, h⟩ := h
  refine ev_invS (M1 := M_L_at) (as := [vi s1, vi s2]) dL_does_628 rfl tw_659 cal_L_at tw_660 (by decide) rfl rfl (Nat.le_of_ble_eq_true rfl) (met_L_at s1 s2 w _ hr1) ?_
  refine ev_iadd (q := 632) dL_does_631 rfl ?_
  refine ev_istore (q := 634) dL_does_632 rfl (by decide) ?_
  refine ev_aload_n (q := 635) dL_does_634 rfl rfl ?_
  refine ev_bipush (q := 637) (v := (37 : Int32)) dL_does_635 rfl (by decide) ?_
  replace h := Option.bind_eq_some_iff.mp h; obtain ⟨r2, hr2, h⟩ := h
  refine ev_aL dL_does_637 hr2 rfl ?_
  refine ev_iload (q := 640) dL_does_638 rfl rfl ?_
  refine ev_iadd (q := 641) dL_does_640 rfl ?_
  refine ev_bipush (q := 643) (v := (99 : Int32)) dL_does_641 rfl (by decide) ?_
  by_cases hc : r2 + (s0 + r1) ≤ (99 : Int32)
  · rw [if_pos hc] at h
    refine ev_icmp_le_t (q := 663) dL_does_643 (by decide) hc ?_
    refine ev_aload_n (q := 664) dL_does_663 rfl rfl ?_
    refine ev_bipush (q := 666) (v := (37 : Int32)) dL_does_664 rfl (by decide) ?_
    refine ev_dup2 (q := 667) dL_does_666 rfl rfl rfl ?_
    replace h := Option.bind_eq_some_iff.mp h; obtain ⟨r3, hr3, h⟩ := h
    refine ev_aL dL_does_667 hr3 rfl ?_
    refine ev_iload (q := 670) dL_does_668 rfl rfl ?_
    refine ev_iadd (q := 671) dL_does_670 rfl ?_
    replace h := Option.bind_eq_some_iff.mp h; obtain ⟨w4, hw4, h⟩ := h
    refine ev_aS dL_does_671 hw4 rfl ?_
    refine ev_aload_n (q := 673) dL_does_672 rfl rfl ?_
    refine ev_iload (q := 675) dL_does_673 rfl rfl ?_
    replace h := Option.bind_eq_some_iff.mp h; obtain ⟨q6, hq6, h⟩ := h
    obtain ⟨hxq6, fsq6, hkq6⟩ := kO_spec hq6
    subst hxq6
    replace h := Option.bind_eq_some_iff.mp h; obtain ⟨r5, hr5, h⟩ := h
    refine ev_invV (M1 := M_X10_stir) (as := [vi (s0 + r1)]) (fs := fsq6) (ci := 10) dL_does_675 rfl tw_625 cal_X10_stir tw_626 tw_627 (by decide) rfl rfl (Nat.le_of_ble_eq_true rfl) hkq6 rfl (met_X10_stir q6 (s0 + r1) w4 _ hr5) ?_
    refine ev_aload_n (q := 679) dL_does_678 rfl rfl ?_
    refine ev_bipush (q := 681) (v := (37 : Int32)) dL_does_679 rfl (by decide) ?_
    replace h := Option.bind_eq_some_iff.mp h; obtain ⟨r7, hr7, h⟩ := h
    refine ev_aL dL_does_681 hr7 rfl ?_
    by_cases hc : r5.1 = r7
    · rw [if_pos hc] at h
      refine ev_icmp_ne_f (q := 685) (t0 := 689) dL_does_682 (by decide) rfl hc ?_
      refine ev_iconst (q := 686) (v := (1 : Int32)) dL_does_685 rfl (by decide) ?_
      refine ev_goto (q := 690) dL_does_686 (by decide) ?_
      exact ev_weak _ (mLe_none (mLe_none (mLe_none (mLe_none (mLe_none (mLe_none (mLe_none (mLe_none (mLe_none mLe_nil))))))))) (e_L_does_J690 (1 : Int32) r5.2 _ h)
    · rw [if_neg hc] at h
      refine ev_icmp_ne_t (q := 689) dL_does_682 (by decide) hc ?_
      refine ev_iconst (q := 690) (v := (0 : Int32)) dL_does_689 rfl (by decide) ?_
      exact ev_weak _ (mLe_none (mLe_none (mLe_none (mLe_none (mLe_none (mLe_none (mLe_none (mLe_none (mLe_none mLe_nil))))))))) (e_L_does_J690 (0 : Int32) r5.2 _ h)
  · rw [if_neg hc] at h
    refine ev_icmp_le_f (q := 646) (t0 := 663) dL_does_643 (by decide) rfl hc ?_
    refine ev_aload_n (q := 647) dL_does_646 rfl rfl ?_
    refine ev_iload (q := 649) dL_does_647 rfl rfl ?_
    replace h := Option.bind_eq_some_iff.mp h; obtain ⟨q9, hq9, h⟩ := h
    obtain ⟨hxq9, fsq9, hkq9⟩ := kO_spec hq9
    subst hxq9
    replace h := Option.bind_eq_some_iff.mp h; obtain ⟨r8, hr8, h⟩ := h
    refine ev_invV (M1 := M_X10_stir) (as := [vi (s0 + r1)]) (fs := fsq9) (ci := 10) dL_does_649 rfl tw_625 cal_X10_stir tw_626 tw_627 (by decide) rfl rfl (Nat.le_of_ble_eq_true rfl) hkq9 rfl (met_X10_stir q9 (s0 + r1) w _ hr8) ?_
    refine ev_bipush (q := 654) (v := (-104 : Int32)) dL_does_652 rfl (by decide) ?_
    by_cases hc : r8.1 = (-104 : Int32)
    · rw [if_pos hc] at h
      refine ev_icmp_ne_f (q := 657) (t0 := 661) dL_does_654 (by decide) rfl hc ?_
      refine ev_iconst (q := 658) (v := (1 : Int32)) dL_does_657 rfl (by decide) ?_
      refine ev_goto (q := 662) dL_does_658 (by decide) ?_
      exact ev_weak _ (mLe_none (mLe_none (mLe_none (mLe_none (mLe_none (mLe_none (mLe_none (mLe_none (mLe_none mLe_nil))))))))) (e_L_does_J662 (1 : Int32) r8.2 _ h)
    · rw [if_neg hc] at h
      refine ev_icmp_ne_t (q := 661) dL_does_654 (by decide) hc ?_
      refine ev_iconst (q := 662) (v := (0 : Int32)) dL_does_661 rfl (by decide) ?_
      exact ev_weak _ (mLe_none (mLe_none (mLe_none (mLe_none (mLe_none (mLe_none (mLe_none (mLe_none (mLe_none mLe_nil))))))))) (e_L_does_J662 (0 : Int32) r8.2 _ h)
def f_L_does_J605 (s0 : Int32) (w : mW) : Option (Int32 × mW) := if s0 = 0 ∨ s0 = 1 then some ((s0, w)) else none
set_option maxRecDepth 100000 in
set_option maxHeartbeats 4000000 in
theorem e_L_does_J605 {X : mXs} (s0 : Int32) (w : mW) (res : Int32 × mW) (h : f_L_does_J605 s0 w = some res) : mEv X M_L_does 5 (some (vi res.1)) res.2 605 [none, none, none, none, none, none, none, none, none] [vi s0] w := by
  unfold f_L_does_J605 at h
  by_cases hz : s0 = 0 ∨ s0 = 1
  · rw [if_pos hz] at h
    cases h
    exact ev_zret dL_does_605 rfl hz
  · rw [if_neg hz] at h
    cases h
def f_L_does_J528 (s0 : Int32) (w : mW) : Option (Int32 × mW) := if s0 = 0 ∨ s0 = 1 then some ((s0, w)) else none
set_option maxRecDepth 100000 in
set_option maxHeartbeats 4000000 in
theorem e_L_does_J528 {X : mXs} (s0 : Int32) (w : mW) (res : Int32 × mW) (h : f_L_does_J528 s0 w = some res) : mEv X M_L_does 5 (some (vi res.1)) res.2 528 [none, none, none, none, none, none, none, none, none] [vi s0] w := by
  unfold f_L_does_J528 at h
  by_cases hz : s0 = 0 ∨ s0 = 1
  · rw [if_pos hz] at h
    cases h
    exact ev_zret dL_does_528 rfl hz
  · rw [if_neg hz] at h
    cases h
def f_L_does_J484 (kc : Int32 → mW → Option ((Int32 × mW) ⊕ (mW))) (v0 : Option Nat) (v1 : Option Nat) (v2 : Option Nat) (v6 : Int32) (v7 : Int32) (v8 : Int32) (w : mW) : Option ((Int32 × mW) ⊕ (mW)) := kc (v8 + (1 : Int32)) w
set_option maxRecDepth 100000 in
set_option maxHeartbeats 4000000 in
theorem e_L_does_J484 {X : mXs} {r : Option mV} {w' : mW} (P : ((Int32 × mW) ⊕ (mW)) → Prop) (v0 : Option Nat) (v1 : Option Nat) (v2 : Option Nat) (v6 : Int32) (v7 : Int32) (v8 : Int32) (w : mW) (kc : Int32 → mW → Option ((Int32 × mW) ⊕ (mW))) (hk : ∀ (u8 : Int32) (uw : mW) (e : (Int32 × mW) ⊕ (mW)), kc u8 uw = some e → P e → mEv X M_L_does 5 r w' 441 [some (vr v0), some (vr v1), some (vr v2), none, none, none, some (vi v6), some (vi v7), some (vi u8)] [] uw) (e : (Int32 × mW) ⊕ (mW)) (h : f_L_does_J484 kc v0 v1 v2 v6 v7 v8 w = some e) (hP : P e) : mEv X M_L_does 5 r w' 484 [some (vr v0), some (vr v1), some (vr v2), none, none, none, some (vi v6), some (vi v7), some (vi v8)] [] w := by
  unfold f_L_does_J484 at h
  refine ev_iinc (q := 487) (v := v8 + (1 : Int32)) dL_does_484 rfl (by decide) rfl (by rfl) ?_
  refine ev_goto (q := 441) dL_does_487 (by decide) ?_
  exact ev_weak _ (mLe_some (mLe_some (mLe_some (mLe_none (mLe_none (mLe_none (mLe_some (mLe_some (mLe_some mLe_nil))))))))) (hk (v8 + (1 : Int32)) w _ h hP)
def f_L_does_J483 (s0 : Int32) (w : mW) : Option ((Int32 × mW) ⊕ (mW)) := if s0 = 0 ∨ s0 = 1 then some (.inl (s0, w)) else none
set_option maxRecDepth 100000 in
set_option maxHeartbeats 4000000 in
theorem e_L_does_J483 {X : mXs} {r : Option mV} {w' : mW} (P : ((Int32 × mW) ⊕ (mW)) → Prop) (s0 : Int32) (w : mW) (hret : ∀ y, P (.inl y) → r = (some (vi y.1)) ∧ w' = y.2) (e : (Int32 × mW) ⊕ (mW)) (h : f_L_does_J483 s0 w = some e) (hP : P e) : mEv X M_L_does 5 r w' 483 [none, none, none, none, none, none, none, none, none] [vi s0] w := by
  unfold f_L_does_J483 at h
  by_cases hz : s0 = 0 ∨ s0 = 1
  · rw [if_pos hz] at h
    cases h
    obtain ⟨hr1, hr2⟩ := hret _ hP
    subst hr1
    subst hr2
    exact ev_zret dL_does_483 rfl hz
  · rw [if_neg hz] at h
    cases h
def f_L_does_L441 (v0 : Option Nat) (v1 : Option Nat) (v2 : Option Nat) (v6 : Int32) (v7 : Int32) : Nat → Int32 → mW → Option ((Int32 × mW) ⊕ (mW))
  | 0, _, _ => none
  | n + 1, v8, w => Option.bind (aL w v1 (0 : Int32)) fun r10 => if r10 ≤ v8 then (some (.inr w)) else (if v8 = v6 then (f_L_does_J484 (f_L_does_L441 v0 v1 v2 v6 v7 n) v0 v1 v2 v6 v7 v8 w) else (Option.bind (aL w v2 v8) fun r11 => if r11 = v7 then (Option.bind (kO w v0 10) fun q13 => Option.bind (f_X10_move q13 v6 v7 w) fun r12 => if r12.1 = (-103 : Int32) then (f_L_does_J483 (1 : Int32) r12.2) else (f_L_does_J483 (0 : Int32) r12.2)) else (f_L_does_J484 (f_L_does_L441 v0 v1 v2 v6 v7 n) v0 v1 v2 v6 v7 v8 w)))
set_option maxRecDepth 100000 in
set_option maxHeartbeats 4000000 in
theorem e_L_does_L441 {X : mXs} {r : Option mV} {w' : mW} (P : ((Int32 × mW) ⊕ (mW)) → Prop) (v0 : Option Nat) (v1 : Option Nat) (v2 : Option Nat) (v6 : Int32) (v7 : Int32) (hret : ∀ y, P (.inl y) → r = (some (vi y.1)) ∧ w' = y.2) (hexit : ∀ y, P (.inr y) → mEv X M_L_does 5 r w' 490 [some (vr v0), none, some (vr v2), none, none, none, some (vi v6), some (vi v7), none] [] y) : ∀ (n : Nat) (v8 : Int32) (w : mW) (e : (Int32 × mW) ⊕ (mW)), f_L_does_L441 v0 v1 v2 v6 v7 n v8 w = some e → P e → mEv X M_L_does 5 r w' 441 [some (vr v0), some (vr v1), some (vr v2), none, none, none, some (vi v6), some (vi v7), some (vi v8)] [] w := by
  intro n
  induction n with
  | zero =>
    intro v8 w e h hP
    rw [f_L_does_L441] at h
    cases h
  | succ n hk =>
    intro v8 w e h hP
    rw [f_L_does_L441] at h
    refine ev_iload (q := 443) dL_does_441 rfl rfl ?_
    refine ev_aload_n (q := 444) dL_does_443 rfl rfl ?_
    refine ev_iconst (q := 445) (v := (0 : Int32)) dL_does_444 rfl (by decide) ?_
    replace h := Option.bind_eq_some_iff.mp h; obtain ⟨r10, hr10, h⟩ := h
    refine ev_aL dL_does_445 hr10 rfl ?_
    by_cases hc : r10 ≤ v8
    · rw [if_pos hc] at h
      refine ev_icmp_ge_t (q := 490) dL_does_446 (by decide) hc ?_
      cases h
      exact ev_weak _ (mLe_some (mLe_none (mLe_some (mLe_none (mLe_none (mLe_none (mLe_some (mLe_some (mLe_none mLe_nil))))))))) (hexit _ hP)
    · rw [if_neg hc] at h
      refine ev_icmp_ge_f (q := 449) (t0 := 490) dL_does_446 (by decide) rfl hc ?_
      refine ev_iload (q := 451) dL_does_449 rfl rfl ?_
      refine ev_iload (q := 453) dL_does_451 rfl rfl ?_
      by_cases hc : v8 = v6
      · rw [if_pos hc] at h
        refine ev_icmp_eq_t (q := 484) dL_does_453 (by decide) hc ?_
        exact ev_weak _ (mLe_some (mLe_some (mLe_some (mLe_none (mLe_none (mLe_none (mLe_some (mLe_some (mLe_some mLe_nil))))))))) (e_L_does_J484 P v0 v1 v2 v6 v7 v8 w _ hk  _ h hP)
      · rw [if_neg hc] at h
        refine ev_icmp_eq_f (q := 456) (t0 := 484) dL_does_453 (by decide) rfl hc ?_
        refine ev_aload_n (q := 457) dL_does_456 rfl rfl ?_
        refine ev_iload (q := 459) dL_does_457 rfl rfl ?_
        replace h := Option.bind_eq_some_iff.mp h; obtain ⟨r11, hr11, h⟩ := h
        refine ev_aL dL_does_459 hr11 rfl ?_
        refine ev_iload (q := 462) dL_does_460 rfl rfl ?_
        by_cases hc : r11 = v7
        · rw [if_pos hc] at h
          refine ev_icmp_ne_f (q := 465) (t0 := 484) dL_does_462 (by decide) rfl hc ?_
          refine ev_aload_n (q := 466) dL_does_465 rfl rfl ?_
          refine ev_iload (q := 468) dL_does_466 rfl rfl ?_
          refine ev_iload (q := 470) dL_does_468 rfl rfl ?_
          replace h := Option.bind_eq_some_iff.mp h; obtain ⟨q13, hq13, h⟩ := h
          obtain ⟨hxq13, fsq13, hkq13⟩ := kO_spec hq13
          subst hxq13
          replace h := Option.bind_eq_some_iff.mp h; obtain ⟨r12, hr12, h⟩ := h
          refine ev_invV (M1 := M_X10_move) (as := [vi v6, vi v7]) (fs := fsq13) (ci := 10) dL_does_470 rfl tw_616 cal_X10_move tw_617 tw_618 (by decide) rfl rfl (Nat.le_of_ble_eq_true rfl) hkq13 rfl (met_X10_move q13 v6 v7 w _ hr12) ?_
          refine ev_bipush (q := 475) (v := (-103 : Int32)) dL_does_473 rfl (by decide) ?_
          by_cases hc : r12.1 = (-103 : Int32)
          · rw [if_pos hc] at h
            refine ev_icmp_ne_f (q := 478) (t0 := 482) dL_does_475 (by decide) rfl hc ?_
            refine ev_iconst (q := 479) (v := (1 : Int32)) dL_does_478 rfl (by decide) ?_
            refine ev_goto (q := 483) dL_does_479 (by decide) ?_
            exact ev_weak _ (mLe_none (mLe_none (mLe_none (mLe_none (mLe_none (mLe_none (mLe_none (mLe_none (mLe_none mLe_nil))))))))) (e_L_does_J483 P (1 : Int32) r12.2 hret  _ h hP)
          · rw [if_neg hc] at h
            refine ev_icmp_ne_t (q := 482) dL_does_475 (by decide) hc ?_
            refine ev_iconst (q := 483) (v := (0 : Int32)) dL_does_482 rfl (by decide) ?_
            exact ev_weak _ (mLe_none (mLe_none (mLe_none (mLe_none (mLe_none (mLe_none (mLe_none (mLe_none (mLe_none mLe_nil))))))))) (e_L_does_J483 P (0 : Int32) r12.2 hret  _ h hP)
        · rw [if_neg hc] at h
          refine ev_icmp_ne_t (q := 484) dL_does_462 (by decide) hc ?_
          exact ev_weak _ (mLe_some (mLe_some (mLe_some (mLe_none (mLe_none (mLe_none (mLe_some (mLe_some (mLe_some mLe_nil))))))))) (e_L_does_J484 P v0 v1 v2 v6 v7 v8 w _ hk  _ h hP)
def f_L_does_J408 (s0 : Int32) (w : mW) : Option (Int32 × mW) := if s0 = 0 ∨ s0 = 1 then some ((s0, w)) else none
set_option maxRecDepth 100000 in
set_option maxHeartbeats 4000000 in
theorem e_L_does_J408 {X : mXs} (s0 : Int32) (w : mW) (res : Int32 × mW) (h : f_L_does_J408 s0 w = some res) : mEv X M_L_does 5 (some (vi res.1)) res.2 408 [none, none, none, none, none, none, none, none, none] [vi s0] w := by
  unfold f_L_does_J408 at h
  by_cases hz : s0 = 0 ∨ s0 = 1
  · rw [if_pos hz] at h
    cases h
    exact ev_zret dL_does_408 rfl hz
  · rw [if_neg hz] at h
    cases h
def f_L_does_L316 (v0 : Option Nat) (v1 : Option Nat) (v2 : Option Nat) : Nat → Int32 → Int32 → mW → Option (Int32 × mW)
  | 0, _, _, _ => none
  | n + 1, v6, v7, w => Option.bind (aL w v1 (0 : Int32)) fun r14 => if r14 ≤ v7 then (some ((v6, w))) else (Option.bind (aL w v2 ((6 : Int32) + v7)) fun r15 => Option.bind (aL w v2 ((12 : Int32) + v7)) fun r16 => Option.bind (aL w v2 ((6 : Int32) + v7)) fun r17 => Option.bind (aS w v2 ((12 : Int32) + v7) (r16 + r17)) fun w18 => Option.bind (aL w18 v2 ((18 : Int32) + v7)) fun r19 => Option.bind (aL w18 v2 ((6 : Int32) + v7)) fun r20 => Option.bind (aS w18 v2 ((18 : Int32) + v7) (r19 + ((1 : Int32) - r20))) fun w21 => Option.bind (aS w21 v2 ((6 : Int32) + v7) (0 : Int32)) fun w22 => (f_L_does_L316 v0 v1 v2 n) (v6 + r15) (v7 + (1 : Int32)) w22)
set_option maxRecDepth 100000 in
set_option maxHeartbeats 4000000 in
theorem e_L_does_L316 {X : mXs} {r : Option mV} {w' : mW} (P : (Int32 × mW) → Prop) (v0 : Option Nat) (v1 : Option Nat) (v2 : Option Nat) (hexit : ∀ y, P y → mEv X M_L_does 5 r w' 386 [some (vr v0), none, some (vr v2), none, none, none, some (vi y.1), none, none] [] y.2) : ∀ (n : Nat) (v6 : Int32) (v7 : Int32) (w : mW) (e : Int32 × mW), f_L_does_L316 v0 v1 v2 n v6 v7 w = some e → P e → mEv X M_L_does 5 r w' 316 [some (vr v0), some (vr v1), some (vr v2), none, none, none, some (vi v6), some (vi v7), none] [] w := by
  intro n
  induction n with
  | zero =>
    intro v6 v7 w e h hP
    rw [f_L_does_L316] at h
    cases h
  | succ n hk =>
    intro v6 v7 w e h hP
    rw [f_L_does_L316] at h
    refine ev_iload (q := 318) dL_does_316 rfl rfl ?_
    refine ev_aload_n (q := 319) dL_does_318 rfl rfl ?_
    refine ev_iconst (q := 320) (v := (0 : Int32)) dL_does_319 rfl (by decide) ?_
    replace h := Option.bind_eq_some_iff.mp h; obtain ⟨r14, hr14, h⟩ := h
    refine ev_aL dL_does_320 hr14 rfl ?_
    by_cases hc : r14 ≤ v7
    · rw [if_pos hc] at h
      refine ev_icmp_ge_t (q := 386) dL_does_321 (by decide) hc ?_
      cases h
      exact ev_weak _ (mLe_some (mLe_none (mLe_some (mLe_none (mLe_none (mLe_none (mLe_some (mLe_none (mLe_none mLe_nil))))))))) (hexit _ hP)
    · rw [if_neg hc] at h
      refine ev_icmp_ge_f (q := 324) (t0 := 386) dL_does_321 (by decide) rfl hc ?_
      refine ev_iload (q := 326) dL_does_324 rfl rfl ?_
      refine ev_aload_n (q := 327) dL_does_326 rfl rfl ?_
      refine ev_bipush (q := 329) (v := (6 : Int32)) dL_does_327 rfl (by decide) ?_
      refine ev_iload (q := 331) dL_does_329 rfl rfl ?_
      refine ev_iadd (q := 332) dL_does_331 rfl ?_
      replace h := Option.bind_eq_some_iff.mp h; obtain ⟨r15, hr15, h⟩ := h
      refine ev_aL dL_does_332 hr15 rfl ?_
      refine ev_iadd (q := 334) dL_does_333 rfl ?_
      refine ev_istore (q := 336) dL_does_334 rfl (by decide) ?_
      refine ev_aload_n (q := 337) dL_does_336 rfl rfl ?_
      refine ev_bipush (q := 339) (v := (12 : Int32)) dL_does_337 rfl (by decide) ?_
      refine ev_iload (q := 341) dL_does_339 rfl rfl ?_
      refine ev_iadd (q := 342) dL_does_341 rfl ?_
      refine ev_dup2 (q := 343) dL_does_342 rfl rfl rfl ?_
      replace h := Option.bind_eq_some_iff.mp h; obtain ⟨r16, hr16, h⟩ := h
      refine ev_aL dL_does_343 hr16 rfl ?_
      refine ev_aload_n (q := 345) dL_does_344 rfl rfl ?_
      refine ev_bipush (q := 347) (v := (6 : Int32)) dL_does_345 rfl (by decide) ?_
      refine ev_iload (q := 349) dL_does_347 rfl rfl ?_
      refine ev_iadd (q := 350) dL_does_349 rfl ?_
      replace h := Option.bind_eq_some_iff.mp h; obtain ⟨r17, hr17, h⟩ := h
      refine ev_aL dL_does_350 hr17 rfl ?_
      refine ev_iadd (q := 352) dL_does_351 rfl ?_
      replace h := Option.bind_eq_some_iff.mp h; obtain ⟨w18, hw18, h⟩ := h
      refine ev_aS dL_does_352 hw18 rfl ?_
      refine ev_aload_n (q := 354) dL_does_353 rfl rfl ?_
      refine ev_bipush (q := 356) (v := (18 : Int32)) dL_does_354 rfl (by decide) ?_
      refine ev_iload (q := 358) dL_does_356 rfl rfl ?_
      refine ev_iadd (q := 359) dL_does_358 rfl ?_
      refine ev_dup2 (q := 360) dL_does_359 rfl rfl rfl ?_
      replace h := Option.bind_eq_some_iff.mp h; obtain ⟨r19, hr19, h⟩ := h
      refine ev_aL dL_does_360 hr19 rfl ?_
      refine ev_iconst (q := 362) (v := (1 : Int32)) dL_does_361 rfl (by decide) ?_
      refine ev_aload_n (q := 363) dL_does_362 rfl rfl ?_
      refine ev_bipush (q := 365) (v := (6 : Int32)) dL_does_363 rfl (by decide) ?_
      refine ev_iload (q := 367) dL_does_365 rfl rfl ?_
      refine ev_iadd (q := 368) dL_does_367 rfl ?_
      replace h := Option.bind_eq_some_iff.mp h; obtain ⟨r20, hr20, h⟩ := h
      refine ev_aL dL_does_368 hr20 rfl ?_
      refine ev_isub (q := 370) dL_does_369 rfl ?_
      refine ev_iadd (q := 371) dL_does_370 rfl ?_
      replace h := Option.bind_eq_some_iff.mp h; obtain ⟨w21, hw21, h⟩ := h
      refine ev_aS dL_does_371 hw21 rfl ?_
      refine ev_aload_n (q := 373) dL_does_372 rfl rfl ?_
      refine ev_bipush (q := 375) (v := (6 : Int32)) dL_does_373 rfl (by decide) ?_
      refine ev_iload (q := 377) dL_does_375 rfl rfl ?_
      refine ev_iadd (q := 378) dL_does_377 rfl ?_
      refine ev_iconst (q := 379) (v := (0 : Int32)) dL_does_378 rfl (by decide) ?_
      replace h := Option.bind_eq_some_iff.mp h; obtain ⟨w22, hw22, h⟩ := h
      refine ev_aS dL_does_379 hw22 rfl ?_
      refine ev_iinc (q := 383) (v := v7 + (1 : Int32)) dL_does_380 rfl (by decide) rfl (by rfl) ?_
      refine ev_goto (q := 316) dL_does_383 (by decide) ?_
      exact ev_weak _ (mLe_some (mLe_some (mLe_some (mLe_none (mLe_none (mLe_none (mLe_some (mLe_some (mLe_none mLe_nil))))))))) (hk (v6 + r15) (v7 + (1 : Int32)) w22 _ h hP)
def f_L_does_J302 (s0 : Int32) (w : mW) : Option (Int32 × mW) := if s0 = 0 ∨ s0 = 1 then some ((s0, w)) else none
set_option maxRecDepth 100000 in
set_option maxHeartbeats 4000000 in
theorem e_L_does_J302 {X : mXs} (s0 : Int32) (w : mW) (res : Int32 × mW) (h : f_L_does_J302 s0 w = some res) : mEv X M_L_does 5 (some (vi res.1)) res.2 302 [none, none, none, none, none, none, none, none, none] [vi s0] w := by
  unfold f_L_does_J302 at h
  by_cases hz : s0 = 0 ∨ s0 = 1
  · rw [if_pos hz] at h
    cases h
    exact ev_zret dL_does_302 rfl hz
  · rw [if_neg hz] at h
    cases h
def f_L_does_J254 (s0 : Int32) (w : mW) : Option (Int32 × mW) := if s0 = 0 ∨ s0 = 1 then some ((s0, w)) else none
set_option maxRecDepth 100000 in
set_option maxHeartbeats 4000000 in
theorem e_L_does_J254 {X : mXs} (s0 : Int32) (w : mW) (res : Int32 × mW) (h : f_L_does_J254 s0 w = some res) : mEv X M_L_does 5 (some (vi res.1)) res.2 254 [none, none, none, none, none, none, none, none, none] [vi s0] w := by
  unfold f_L_does_J254 at h
  by_cases hz : s0 = 0 ∨ s0 = 1
  · rw [if_pos hz] at h
    cases h
    exact ev_zret dL_does_254 rfl hz
  · rw [if_neg hz] at h
    cases h
def f_L_does_J200 (kc : Int32 → mW → Option (mW)) (v0 : Option Nat) (v1 : Option Nat) (v2 : Option Nat) (v5 : Int32) (v6 : Int32) (v7 : Int32) (v8 : Int32) (w : mW) : Option (mW) := kc (v8 + (1 : Int32)) w
set_option maxRecDepth 100000 in
set_option maxHeartbeats 4000000 in
theorem e_L_does_J200 {X : mXs} {r : Option mV} {w' : mW} (P : (mW) → Prop) (v0 : Option Nat) (v1 : Option Nat) (v2 : Option Nat) (v5 : Int32) (v6 : Int32) (v7 : Int32) (v8 : Int32) (w : mW) (kc : Int32 → mW → Option (mW)) (hk : ∀ (u8 : Int32) (uw : mW) (e : mW), kc u8 uw = some e → P e → mEv X M_L_does 5 r w' 174 [some (vr v0), some (vr v1), some (vr v2), none, none, some (vi v5), some (vi v6), some (vi v7), some (vi u8)] [] uw) (e : mW) (h : f_L_does_J200 kc v0 v1 v2 v5 v6 v7 v8 w = some e) (hP : P e) : mEv X M_L_does 5 r w' 200 [some (vr v0), some (vr v1), some (vr v2), none, none, some (vi v5), some (vi v6), some (vi v7), some (vi v8)] [] w := by
  unfold f_L_does_J200 at h
  refine ev_iinc (q := 203) (v := v8 + (1 : Int32)) dL_does_200 rfl (by decide) rfl (by rfl) ?_
  refine ev_goto (q := 174) dL_does_203 (by decide) ?_
  exact ev_weak _ (mLe_some (mLe_some (mLe_some (mLe_none (mLe_none (mLe_some (mLe_some (mLe_some (mLe_some mLe_nil))))))))) (hk (v8 + (1 : Int32)) w _ h hP)
def f_L_does_L174 (v0 : Option Nat) (v1 : Option Nat) (v2 : Option Nat) (v5 : Int32) (v6 : Int32) (v7 : Int32) : Nat → Int32 → mW → Option (mW)
  | 0, _, _ => none
  | n + 1, v8, w => Option.bind (aL w v1 (0 : Int32)) fun r23 => if r23 ≤ v8 then (some (w)) else (Option.bind (f_L_in v7 v8 w) fun r24 => if r24 = 0 then (f_L_does_J200 (f_L_does_L174 v0 v1 v2 v5 v6 v7 n) v0 v1 v2 v5 v6 v7 v8 w) else (Option.bind (aS w v2 ((6 : Int32) + v8) (1 : Int32)) fun w25 => f_L_does_J200 (f_L_does_L174 v0 v1 v2 v5 v6 v7 n) v0 v1 v2 v5 v6 v7 v8 w25))
set_option maxRecDepth 100000 in
set_option maxHeartbeats 4000000 in
theorem e_L_does_L174 {X : mXs} {r : Option mV} {w' : mW} (P : (mW) → Prop) (v0 : Option Nat) (v1 : Option Nat) (v2 : Option Nat) (v5 : Int32) (v6 : Int32) (v7 : Int32) (hexit : ∀ y, P y → mEv X M_L_does 5 r w' 206 [some (vr v0), some (vr v1), some (vr v2), none, none, some (vi v5), some (vi v6), some (vi v7), none] [] y) : ∀ (n : Nat) (v8 : Int32) (w : mW) (e : mW), f_L_does_L174 v0 v1 v2 v5 v6 v7 n v8 w = some e → P e → mEv X M_L_does 5 r w' 174 [some (vr v0), some (vr v1), some (vr v2), none, none, some (vi v5), some (vi v6), some (vi v7), some (vi v8)] [] w := by
  intro n
  induction n with
  | zero =>
    intro v8 w e h hP
    rw [f_L_does_L174] at h
    cases h
  | succ n hk =>
    intro v8 w e h hP
    rw [f_L_does_L174] at h
    refine ev_iload (q := 176) dL_does_174 rfl rfl ?_
    refine ev_aload_n (q := 177) dL_does_176 rfl rfl ?_
    refine ev_iconst (q := 178) (v := (0 : Int32)) dL_does_177 rfl (by decide) ?_
    replace h := Option.bind_eq_some_iff.mp h; obtain ⟨r23, hr23, h⟩ := h
    refine ev_aL dL_does_178 hr23 rfl ?_
    by_cases hc : r23 ≤ v8
    · rw [if_pos hc] at h
      refine ev_icmp_ge_t (q := 206) dL_does_179 (by decide) hc ?_
      cases h
      exact ev_weak _ (mLe_some (mLe_some (mLe_some (mLe_none (mLe_none (mLe_some (mLe_some (mLe_some (mLe_none mLe_nil))))))))) (hexit _ hP)
    · rw [if_neg hc] at h
      refine ev_icmp_ge_f (q := 182) (t0 := 206) dL_does_179 (by decide) rfl hc ?_
      refine ev_iload (q := 184) dL_does_182 rfl rfl ?_
      refine ev_iload (q := 186) dL_does_184 rfl rfl ?_
      replace h := Option.bind_eq_some_iff.mp h; obtain ⟨r24, hr24, h⟩ := h
      refine ev_invS (M1 := M_L_in) (as := [vi v7, vi v8]) dL_does_186 rfl tw_705 cal_L_in tw_706 (by decide) rfl rfl (Nat.le_of_ble_eq_true rfl) (met_L_in v7 v8 w _ hr24) ?_
      by_cases hc : r24 = 0
      · rw [if_pos hc] at h
        refine ev_if_eq_t (q := 200) dL_does_189 (by decide) hc ?_
        exact ev_weak _ (mLe_some (mLe_some (mLe_some (mLe_none (mLe_none (mLe_some (mLe_some (mLe_some (mLe_some mLe_nil))))))))) (e_L_does_J200 P v0 v1 v2 v5 v6 v7 v8 w _ hk  _ h hP)
      · rw [if_neg hc] at h
        refine ev_if_eq_f (q := 192) (t0 := 200) dL_does_189 (by decide) rfl hc ?_
        refine ev_aload_n (q := 193) dL_does_192 rfl rfl ?_
        refine ev_bipush (q := 195) (v := (6 : Int32)) dL_does_193 rfl (by decide) ?_
        refine ev_iload (q := 197) dL_does_195 rfl rfl ?_
        refine ev_iadd (q := 198) dL_does_197 rfl ?_
        refine ev_iconst (q := 199) (v := (1 : Int32)) dL_does_198 rfl (by decide) ?_
        replace h := Option.bind_eq_some_iff.mp h; obtain ⟨w25, hw25, h⟩ := h
        refine ev_aS dL_does_199 hw25 rfl ?_
        exact ev_weak _ (mLe_some (mLe_some (mLe_some (mLe_none (mLe_none (mLe_some (mLe_some (mLe_some (mLe_some mLe_nil))))))))) (e_L_does_J200 P v0 v1 v2 v5 v6 v7 v8 w25 _ hk  _ h hP)
def f_L_does_J149 (s0 : Int32) (w : mW) : Option (Int32 × mW) := if s0 = 0 ∨ s0 = 1 then some ((s0, w)) else none
set_option maxRecDepth 100000 in
set_option maxHeartbeats 4000000 in
theorem e_L_does_J149 {X : mXs} (s0 : Int32) (w : mW) (res : Int32 × mW) (h : f_L_does_J149 s0 w = some res) : mEv X M_L_does 5 (some (vi res.1)) res.2 149 [none, none, none, none, none, none, none, none, none] [vi s0] w := by
  unfold f_L_does_J149 at h
  by_cases hz : s0 = 0 ∨ s0 = 1
  · rw [if_pos hz] at h
    cases h
    exact ev_zret dL_does_149 rfl hz
  · rw [if_neg hz] at h
    cases h
def f_L_does_J113 (v0 : Option Nat) (v1 : Option Nat) (v2 : Option Nat) (v5 : Int32) (s0 : Int32) (w : mW) : Option (Int32 × mW) := Option.bind (aL w v2 (37 : Int32)) fun r26 => Option.bind (aL w v1 ((2 : Int32) + v5)) fun r27 => Option.bind (f_L_batter r27 w) fun r28 => if r28 ≤ r26 then (Option.bind (aL w v2 (36 : Int32)) fun r29 => Option.bind (f_L_covers v1 v2 v5 s0 r29 w) fun r30 => Option.bind (f_L_bare v1 v2 w) fun r31 => Option.bind (f_L_does_L174 v0 v1 v2 v5 s0 (r30 &&& r31) mFuel (0 : Int32) w) fun e32 => Option.bind (aL e32 v2 (37 : Int32)) fun r33 => Option.bind (aL e32 v1 ((2 : Int32) + v5)) fun r34 => Option.bind (f_L_batter r34 e32) fun r35 => Option.bind (aS e32 v2 (37 : Int32) (r33 - r35)) fun w36 => Option.bind (aL w36 v2 ((32 : Int32) + v5)) fun r37 => Option.bind (aS w36 v2 ((32 : Int32) + v5) (r37 + (1 : Int32))) fun w38 => Option.bind (kO w38 v0 10) fun q40 => Option.bind (f_X10_toss q40 v5 s0 w38) fun r39 => Option.bind (f_L_size (r30 &&& r31) r39.2) fun r41 => if r39.1 = r41 then (f_L_does_J254 (1 : Int32) r39.2) else (f_L_does_J254 (0 : Int32) r39.2)) else (Option.bind (kO w v0 10) fun q43 => Option.bind (f_X10_toss q43 v5 s0 w) fun r42 => if r42.1 = (-103 : Int32) then (f_L_does_J149 (1 : Int32) r42.2) else (f_L_does_J149 (0 : Int32) r42.2))
set_option maxRecDepth 100000 in
set_option maxHeartbeats 4000000 in
theorem e_L_does_J113 {X : mXs} (v0 : Option Nat) (v1 : Option Nat) (v2 : Option Nat) (v5 : Int32) (s0 : Int32) (w : mW) (res : Int32 × mW) (h : f_L_does_J113 v0 v1 v2 v5 s0 w = some res) : mEv X M_L_does 5 (some (vi res.1)) res.2 113 [some (vr v0), some (vr v1), some (vr v2), none, none, some (vi v5), none, none, none] [vi s0] w := by
  unfold f_L_does_J113 at h
  refine ev_istore (q := 115) dL_does_113 rfl (by decide) ?_
  refine ev_aload_n (q := 116) dL_does_115 rfl rfl ?_
  refine ev_bipush (q := 118) (v := (37 : Int32)) dL_does_116 rfl (by decide) ?_
  replace h := Option.bind_eq_some_iff.mp h; obtain ⟨r26, hr26, h⟩ := h
  refine ev_aL dL_does_118 hr26 rfl ?_
  refine ev_aload_n (q := 120) dL_does_119 rfl rfl ?_
  refine ev_iconst (q := 121) (v := (2 : Int32)) dL_does_120 rfl (by decide) ?_
  refine ev_iload (q := 123) dL_does_121 rfl rfl ?_
  refine ev_iadd (q := 124) dL_does_123 rfl ?_
  replace h := Option.bind_eq_some_iff.mp h; obtain ⟨r27, hr27, h⟩ := h
  refine ev_aL dL_does_124 hr27 rfl ?_
  replace h := Option.bind_eq_some_iff.mp h; obtain ⟨r28, hr28, h⟩ := h
  refine ev_invS (M1 := M_L_batter) (as := [vi r27]) dL_does_125 rfl tw_680 cal_L_batter tw_681 (by decide) rfl rfl (Nat.le_of_ble_eq_true rfl) (met_L_batter r27 w _ hr28) ?_
  by_cases hc : r28 ≤ r26
  · rw [if_pos hc] at h
    refine ev_icmp_ge_t (q := 150) dL_does_128 (by decide) hc ?_
    refine ev_aload_n (q := 151) dL_does_150 rfl rfl ?_
    refine ev_aload_n (q := 152) dL_does_151 rfl rfl ?_
    refine ev_iload (q := 154) dL_does_152 rfl rfl ?_
    refine ev_iload (q := 156) dL_does_154 rfl rfl ?_
    refine ev_aload_n (q := 157) dL_does_156 rfl rfl ?_
    refine ev_bipush (q := 159) (v := (36 : Int32)) dL_does_157 rfl (by decide) ?_
    replace h := Option.bind_eq_some_iff.mp h; obtain ⟨r29, hr29, h⟩ := h
    refine ev_aL dL_does_159 hr29 rfl ?_
    replace h := Option.bind_eq_some_iff.mp h; obtain ⟨r30, hr30, h⟩ := h
    refine ev_invS (M1 := M_L_covers) (as := [vr v1, vr v2, vi v5, vi s0, vi r29]) dL_does_160 rfl tw_693 cal_L_covers tw_694 (by decide) rfl rfl (Nat.le_of_ble_eq_true rfl) (met_L_covers v1 v2 v5 s0 r29 w _ hr30) ?_
    refine ev_aload_n (q := 164) dL_does_163 rfl rfl ?_
    refine ev_aload_n (q := 165) dL_does_164 rfl rfl ?_
    replace h := Option.bind_eq_some_iff.mp h; obtain ⟨r31, hr31, h⟩ := h
    refine ev_invS (M1 := M_L_bare) (as := [vr v1, vr v2]) dL_does_165 rfl tw_702 cal_L_bare tw_703 (by decide) rfl rfl (Nat.le_of_ble_eq_true rfl) (met_L_bare v1 v2 w _ hr31) ?_
    refine ev_iand (q := 169) dL_does_168 rfl ?_
    refine ev_istore (q := 171) dL_does_169 rfl (by decide) ?_
    refine ev_iconst (q := 172) (v := (0 : Int32)) dL_does_171 rfl (by decide) ?_
    refine ev_istore (q := 174) dL_does_172 rfl (by decide) ?_
    replace h := Option.bind_eq_some_iff.mp h; obtain ⟨e32, he32, h⟩ := h
    refine ev_weak _ (mLe_some (mLe_some (mLe_some (mLe_none (mLe_none (mLe_some (mLe_some (mLe_some (mLe_some mLe_nil))))))))) (e_L_does_L174 (fun z => e32 = z) v0 v1 v2 v5 s0 (r30 &&& r31) (fun e32q hq => ?_) mFuel (0 : Int32) w _ he32 rfl)
    subst hq
    refine ev_aload_n (q := 207) dL_does_206 rfl rfl ?_
    refine ev_bipush (q := 209) (v := (37 : Int32)) dL_does_207 rfl (by decide) ?_
    refine ev_dup2 (q := 210) dL_does_209 rfl rfl rfl ?_
    replace h := Option.bind_eq_some_iff.mp h; obtain ⟨r33, hr33, h⟩ := h
    refine ev_aL dL_does_210 hr33 rfl ?_
    refine ev_aload_n (q := 212) dL_does_211 rfl rfl ?_
    refine ev_iconst (q := 213) (v := (2 : Int32)) dL_does_212 rfl (by decide) ?_
    refine ev_iload (q := 215) dL_does_213 rfl rfl ?_
    refine ev_iadd (q := 216) dL_does_215 rfl ?_
    replace h := Option.bind_eq_some_iff.mp h; obtain ⟨r34, hr34, h⟩ := h
    refine ev_aL dL_does_216 hr34 rfl ?_
    replace h := Option.bind_eq_some_iff.mp h; obtain ⟨r35, hr35, h⟩ := h
    refine ev_invS (M1 := M_L_batter) (as := [vi r34]) dL_does_217 rfl tw_680 cal_L_batter tw_681 (by decide) rfl rfl (Nat.le_of_ble_eq_true rfl) (met_L_batter r34 e32 _ hr35) ?_
    refine ev_isub (q := 221) dL_does_220 rfl ?_
    replace h := Option.bind_eq_some_iff.mp h; obtain ⟨w36, hw36, h⟩ := h
    refine ev_aS dL_does_221 hw36 rfl ?_
    refine ev_aload_n (q := 223) dL_does_222 rfl rfl ?_
    refine ev_bipush (q := 225) (v := (32 : Int32)) dL_does_223 rfl (by decide) ?_
    refine ev_iload (q := 227) dL_does_225 rfl rfl ?_
    refine ev_iadd (q := 228) dL_does_227 rfl ?_
    refine ev_dup2 (q := 229) dL_does_228 rfl rfl rfl ?_
    replace h := Option.bind_eq_some_iff.mp h; obtain ⟨r37, hr37, h⟩ := h
    refine ev_aL dL_does_229 hr37 rfl ?_
    refine ev_iconst (q := 231) (v := (1 : Int32)) dL_does_230 rfl (by decide) ?_
    refine ev_iadd (q := 232) dL_does_231 rfl ?_
    replace h := Option.bind_eq_some_iff.mp h; obtain ⟨w38, hw38, h⟩ := h
    refine ev_aS dL_does_232 hw38 rfl ?_
    refine ev_aload_n (q := 234) dL_does_233 rfl rfl ?_
    refine ev_iload (q := 236) dL_does_234 rfl rfl ?_
    refine ev_iload (q := 238) dL_does_236 rfl rfl ?_
    replace h := Option.bind_eq_some_iff.mp h; obtain ⟨q40, hq40, h⟩ := h
    obtain ⟨hxq40, fsq40, hkq40⟩ := kO_spec hq40
    subst hxq40
    replace h := Option.bind_eq_some_iff.mp h; obtain ⟨r39, hr39, h⟩ := h
    refine ev_invV (M1 := M_X10_toss) (as := [vi v5, vi s0]) (fs := fsq40) (ci := 10) dL_does_238 rfl tw_608 cal_X10_toss tw_609 tw_610 (by decide) rfl rfl (Nat.le_of_ble_eq_true rfl) hkq40 rfl (met_X10_toss q40 v5 s0 w38 _ hr39) ?_
    refine ev_iload (q := 243) dL_does_241 rfl rfl ?_
    replace h := Option.bind_eq_some_iff.mp h; obtain ⟨r41, hr41, h⟩ := h
    refine ev_invS (M1 := M_L_size) (as := [vi (r30 &&& r31)]) dL_does_243 rfl tw_708 cal_L_size tw_709 (by decide) rfl rfl (Nat.le_of_ble_eq_true rfl) (met_L_size (r30 &&& r31) r39.2 _ hr41) ?_
    by_cases hc : r39.1 = r41
    · rw [if_pos hc] at h
      refine ev_icmp_ne_f (q := 249) (t0 := 253) dL_does_246 (by decide) rfl hc ?_
      refine ev_iconst (q := 250) (v := (1 : Int32)) dL_does_249 rfl (by decide) ?_
      refine ev_goto (q := 254) dL_does_250 (by decide) ?_
      exact ev_weak _ (mLe_none (mLe_none (mLe_none (mLe_none (mLe_none (mLe_none (mLe_none (mLe_none (mLe_none mLe_nil))))))))) (e_L_does_J254 (1 : Int32) r39.2 _ h)
    · rw [if_neg hc] at h
      refine ev_icmp_ne_t (q := 253) dL_does_246 (by decide) hc ?_
      refine ev_iconst (q := 254) (v := (0 : Int32)) dL_does_253 rfl (by decide) ?_
      exact ev_weak _ (mLe_none (mLe_none (mLe_none (mLe_none (mLe_none (mLe_none (mLe_none (mLe_none (mLe_none mLe_nil))))))))) (e_L_does_J254 (0 : Int32) r39.2 _ h)
  · rw [if_neg hc] at h
    refine ev_icmp_ge_f (q := 131) (t0 := 150) dL_does_128 (by decide) rfl hc ?_
    refine ev_aload_n (q := 132) dL_does_131 rfl rfl ?_
    refine ev_iload (q := 134) dL_does_132 rfl rfl ?_
    refine ev_iload (q := 136) dL_does_134 rfl rfl ?_
    replace h := Option.bind_eq_some_iff.mp h; obtain ⟨q43, hq43, h⟩ := h
    obtain ⟨hxq43, fsq43, hkq43⟩ := kO_spec hq43
    subst hxq43
    replace h := Option.bind_eq_some_iff.mp h; obtain ⟨r42, hr42, h⟩ := h
    refine ev_invV (M1 := M_X10_toss) (as := [vi v5, vi s0]) (fs := fsq43) (ci := 10) dL_does_136 rfl tw_608 cal_X10_toss tw_609 tw_610 (by decide) rfl rfl (Nat.le_of_ble_eq_true rfl) hkq43 rfl (met_X10_toss q43 v5 s0 w _ hr42) ?_
    refine ev_bipush (q := 141) (v := (-103 : Int32)) dL_does_139 rfl (by decide) ?_
    by_cases hc : r42.1 = (-103 : Int32)
    · rw [if_pos hc] at h
      refine ev_icmp_ne_f (q := 144) (t0 := 148) dL_does_141 (by decide) rfl hc ?_
      refine ev_iconst (q := 145) (v := (1 : Int32)) dL_does_144 rfl (by decide) ?_
      refine ev_goto (q := 149) dL_does_145 (by decide) ?_
      exact ev_weak _ (mLe_none (mLe_none (mLe_none (mLe_none (mLe_none (mLe_none (mLe_none (mLe_none (mLe_none mLe_nil))))))))) (e_L_does_J149 (1 : Int32) r42.2 _ h)
    · rw [if_neg hc] at h
      refine ev_icmp_ne_t (q := 148) dL_does_141 (by decide) hc ?_
      refine ev_iconst (q := 149) (v := (0 : Int32)) dL_does_148 rfl (by decide) ?_
      exact ev_weak _ (mLe_none (mLe_none (mLe_none (mLe_none (mLe_none (mLe_none (mLe_none (mLe_none (mLe_none mLe_nil))))))))) (e_L_does_J149 (0 : Int32) r42.2 _ h)
def f_L_does_J90 (v0 : Option Nat) (v1 : Option Nat) (v2 : Option Nat) (v5 : Int32) (v6 : Int32) (w : mW) : Option (Int32 × mW) := if 0 ≤ v6 then (if v6 ≤ (35 : Int32) then (f_L_does_J113 v0 v1 v2 v5 v6 w) else (f_L_does_J113 v0 v1 v2 v5 (35 : Int32) w)) else (f_L_does_J113 v0 v1 v2 v5 (0 : Int32) w)
set_option maxRecDepth 100000 in
set_option maxHeartbeats 4000000 in
theorem e_L_does_J90 {X : mXs} (v0 : Option Nat) (v1 : Option Nat) (v2 : Option Nat) (v5 : Int32) (v6 : Int32) (w : mW) (res : Int32 × mW) (h : f_L_does_J90 v0 v1 v2 v5 v6 w = some res) : mEv X M_L_does 5 (some (vi res.1)) res.2 90 [some (vr v0), some (vr v1), some (vr v2), none, none, some (vi v5), some (vi v6), none, none] [] w := by
  unfold f_L_does_J90 at h
  refine ev_iload (q := 92) dL_does_90 rfl rfl ?_
  by_cases hc : 0 ≤ v6
  · rw [if_pos hc] at h
    refine ev_if_ge_t (q := 99) dL_does_92 (by decide) hc ?_
    refine ev_iload (q := 101) dL_does_99 rfl rfl ?_
    refine ev_bipush (q := 103) (v := (35 : Int32)) dL_does_101 rfl (by decide) ?_
    by_cases hc : v6 ≤ (35 : Int32)
    · rw [if_pos hc] at h
      refine ev_icmp_le_t (q := 111) dL_does_103 (by decide) hc ?_
      refine ev_iload (q := 113) dL_does_111 rfl rfl ?_
      exact ev_weak _ (mLe_some (mLe_some (mLe_some (mLe_none (mLe_none (mLe_some (mLe_none (mLe_none (mLe_none mLe_nil))))))))) (e_L_does_J113 v0 v1 v2 v5 v6 w _ h)
    · rw [if_neg hc] at h
      refine ev_icmp_le_f (q := 106) (t0 := 111) dL_does_103 (by decide) rfl hc ?_
      refine ev_bipush (q := 108) (v := (35 : Int32)) dL_does_106 rfl (by decide) ?_
      refine ev_goto (q := 113) dL_does_108 (by decide) ?_
      exact ev_weak _ (mLe_some (mLe_some (mLe_some (mLe_none (mLe_none (mLe_some (mLe_none (mLe_none (mLe_none mLe_nil))))))))) (e_L_does_J113 v0 v1 v2 v5 (35 : Int32) w _ h)
  · rw [if_neg hc] at h
    refine ev_if_ge_f (q := 95) (t0 := 99) dL_does_92 (by decide) rfl hc ?_
    refine ev_iconst (q := 96) (v := (0 : Int32)) dL_does_95 rfl (by decide) ?_
    refine ev_goto (q := 113) dL_does_96 (by decide) ?_
    exact ev_weak _ (mLe_some (mLe_some (mLe_some (mLe_none (mLe_none (mLe_some (mLe_none (mLe_none (mLe_none mLe_nil))))))))) (e_L_does_J113 v0 v1 v2 v5 (0 : Int32) w _ h)
def f_L_does (v0 : Option Nat) (v1 : Option Nat) (v2 : Option Nat) (v3 : Int32) (w : mW) : Option (Int32 × mW) := Option.bind (f_L_at v3 (16 : Int32) w) fun r44 => Option.bind (aL w v1 (1 : Int32)) fun r45 => Option.bind (f_L_at (v3 >>> ((4 : Int32) &&& 31)) r45 w) fun r46 => if (7 : Int32) ≤ r44 then (if (9 : Int32) ≤ r44 then (if (11 : Int32) ≤ r44 then (if (13 : Int32) ≤ r44 then (if r44 = (13 : Int32) then (Option.bind (aL w v2 ((28 : Int32) + r46)) fun r48 => Option.bind (f_L_at (v3 >>> ((6 : Int32) &&& 31)) (5 : Int32) w) fun r49 => Option.bind (aS w v2 ((24 : Int32) + r46) r49) fun w50 => Option.bind (f_L_at (v3 >>> ((9 : Int32) &&& 31)) (5 : Int32) w50) fun r51 => Option.bind (aS w50 v2 ((28 : Int32) + r46) r51) fun w52 => Option.bind (aL w52 v2 ((24 : Int32) + r46)) fun r53 => Option.bind (aL w52 v2 ((28 : Int32) + r46)) fun r54 => Option.bind (kO w52 v0 10) fun q56 => Option.bind (f_X10_train q56 r46 r53 r54 w52) fun r55 => if r55.1 = r48 then (f_L_does_J605 (1 : Int32) r55.2) else (f_L_does_J605 (0 : Int32) r55.2)) else (Option.bind (f_L_at (v3 >>> ((10 : Int32) &&& 31)) (2 : Int32) w) fun r47 => if r47 = 0 then (f_L_does_J628 v0 v2 (1 : Int32) (v3 >>> ((4 : Int32) &&& 31)) (60 : Int32) w) else (f_L_does_J628 v0 v2 (1 : Int32) (v3 >>> ((4 : Int32) &&& 31)) (9 : Int32) w))) else (Option.bind (aL w v1 (0 : Int32)) fun r57 => Option.bind (f_L_at (v3 >>> ((4 : Int32) &&& 31)) r57 w) fun r58 => Option.bind (f_L_at (v3 >>> ((7 : Int32) &&& 31)) (36 : Int32) w) fun r59 => Option.bind (f_L_does_L441 v0 v1 v2 r58 r59 mFuel (0 : Int32) w) fun e60 => match e60 with | .inl y67 => some y67 | .inr y61 => Option.bind (aL y61 v2 r58) fun r62 => Option.bind (aS y61 v2 r58 r59) fun w63 => Option.bind (aS w63 v2 ((6 : Int32) + r58) (0 : Int32)) fun w64 => Option.bind (kO w64 v0 10) fun q66 => Option.bind (f_X10_move q66 r58 r59 w64) fun r65 => if r65.1 = r62 then (f_L_does_J528 (1 : Int32) r65.2) else (f_L_does_J528 (0 : Int32) r65.2))) else (Option.bind (f_L_does_L316 v0 v1 v2 mFuel (0 : Int32) (0 : Int32) w) fun e68 => Option.bind (aL e68.2 v2 (38 : Int32)) fun r69 => Option.bind (aS e68.2 v2 (38 : Int32) (r69 + (1 : Int32))) fun w70 => Option.bind (kO w70 v0 10) fun q72 => Option.bind (f_X10_morning q72  w70) fun r71 => if r71.1 = e68.1 then (f_L_does_J408 (1 : Int32) r71.2) else (f_L_does_J408 (0 : Int32) r71.2))) else (Option.bind (aL w v2 (36 : Int32)) fun r73 => Option.bind (f_L_at (v3 >>> ((6 : Int32) &&& 31)) (3 : Int32) w) fun r74 => Option.bind (aS w v2 (36 : Int32) (r74 - (1 : Int32))) fun w75 => Option.bind (aL w75 v2 (36 : Int32)) fun r76 => Option.bind (kO w75 v0 10) fun q78 => Option.bind (f_X10_wind q78 r76 w75) fun r77 => if r77.1 = r73 + (1 : Int32) then (f_L_does_J302 (1 : Int32) r77.2) else (f_L_does_J302 (0 : Int32) r77.2))) else (Option.bind (f_L_at (v3 >>> ((6 : Int32) &&& 31)) (36 : Int32) w) fun r79 => if r44 ≤ (2 : Int32) then (f_L_does_J90 v0 v1 v2 r46 r79 w) else (Option.bind (aL w v1 (0 : Int32)) fun r80 => Option.bind (f_L_at (v3 >>> ((6 : Int32) &&& 31)) r80 w) fun r81 => Option.bind (aL w v2 r81) fun r82 => Option.bind (aL w v2 ((24 : Int32) + r46)) fun r83 => Option.bind (aL w v2 ((28 : Int32) + r46)) fun r84 => Option.bind (aL w v2 (36 : Int32)) fun r85 => f_L_does_J90 v0 v1 v2 r46 ((((r82 - ((6 : Int32) * (r83 - (2 : Int32)))) - (r84 - (2 : Int32))) - r85) + (r44 - (5 : Int32))) w))
set_option maxRecDepth 100000 in
set_option maxHeartbeats 4000000 in
theorem met_L_does (v0 : Option Nat) (v1 : Option Nat) (v2 : Option Nat) (v3 : Int32) (w : mW) (res : Int32 × mW) (h : f_L_does v0 v1 v2 v3 w = some res) : mMet M_L_does 5 [vr v0, vr v1, vr v2, vi v3] w (some (vi res.1)) res.2 := by
  refine ev_met (n := 5) (by decide) rfl fun X => ?_
  unfold f_L_does at h
  show mEv X M_L_does 5 _ _ 0 [some (vr v0), some (vr v1), some (vr v2), some (vi v3), none, none, none, none, none] [] w
  refine ev_iload_n (q := 1) dL_does_0 rfl rfl ?_
  refine ev_bipush (q := 3) (v := (16 : Int32)) dL_does_1 rfl (by decide) ?_
  replace h := Option.bind_eq_some_iff.mp h; obtain ⟨r44, hr44, h⟩ := h
  refine ev_invS (M1 := M_L_at) (as := [vi v3, vi ((16 : Int32))]) dL_does_3 rfl tw_659 cal_L_at tw_660 (by decide) rfl rfl (Nat.le_of_ble_eq_true rfl) (met_L_at v3 (16 : Int32) w _ hr44) ?_
  refine ev_istore (q := 8) dL_does_6 rfl (by decide) ?_
  refine ev_iload_n (q := 9) dL_does_8 rfl rfl ?_
  refine ev_iconst (q := 10) (v := (4 : Int32)) dL_does_9 rfl (by decide) ?_
  refine ev_ishr (q := 11) dL_does_10 rfl ?_
  refine ev_aload_n (q := 12) dL_does_11 rfl rfl ?_
  refine ev_iconst (q := 13) (v := (1 : Int32)) dL_does_12 rfl (by decide) ?_
  replace h := Option.bind_eq_some_iff.mp h; obtain ⟨r45, hr45, h⟩ := h
  refine ev_aL dL_does_13 hr45 rfl ?_
  replace h := Option.bind_eq_some_iff.mp h; obtain ⟨r46, hr46, h⟩ := h
  refine ev_invS (M1 := M_L_at) (as := [vi (v3 >>> ((4 : Int32) &&& 31)), vi r45]) dL_does_14 rfl tw_659 cal_L_at tw_660 (by decide) rfl rfl (Nat.le_of_ble_eq_true rfl) (met_L_at (v3 >>> ((4 : Int32) &&& 31)) r45 w _ hr46) ?_
  refine ev_istore (q := 19) dL_does_17 rfl (by decide) ?_
  refine ev_iload (q := 21) dL_does_19 rfl rfl ?_
  refine ev_bipush (q := 23) (v := (7 : Int32)) dL_does_21 rfl (by decide) ?_
  by_cases hc : (7 : Int32) ≤ r44
  · rw [if_pos hc] at h
    refine ev_icmp_ge_t (q := 255) dL_does_23 (by decide) hc ?_
    refine ev_iload (q := 257) dL_does_255 rfl rfl ?_
    refine ev_bipush (q := 259) (v := (9 : Int32)) dL_does_257 rfl (by decide) ?_
    by_cases hc : (9 : Int32) ≤ r44
    · rw [if_pos hc] at h
      refine ev_icmp_ge_t (q := 303) dL_does_259 (by decide) hc ?_
      refine ev_iload (q := 305) dL_does_303 rfl rfl ?_
      refine ev_bipush (q := 307) (v := (11 : Int32)) dL_does_305 rfl (by decide) ?_
      by_cases hc : (11 : Int32) ≤ r44
      · rw [if_pos hc] at h
        refine ev_icmp_ge_t (q := 409) dL_does_307 (by decide) hc ?_
        refine ev_iload (q := 411) dL_does_409 rfl rfl ?_
        refine ev_bipush (q := 413) (v := (13 : Int32)) dL_does_411 rfl (by decide) ?_
        by_cases hc : (13 : Int32) ≤ r44
        · rw [if_pos hc] at h
          refine ev_icmp_ge_t (q := 529) dL_does_413 (by decide) hc ?_
          refine ev_iload (q := 531) dL_does_529 rfl rfl ?_
          refine ev_bipush (q := 533) (v := (13 : Int32)) dL_does_531 rfl (by decide) ?_
          by_cases hc : r44 = (13 : Int32)
          · rw [if_pos hc] at h
            refine ev_icmp_ne_f (q := 536) (t0 := 606) dL_does_533 (by decide) rfl hc ?_
            refine ev_aload_n (q := 537) dL_does_536 rfl rfl ?_
            refine ev_bipush (q := 539) (v := (28 : Int32)) dL_does_537 rfl (by decide) ?_
            refine ev_iload (q := 541) dL_does_539 rfl rfl ?_
            refine ev_iadd (q := 542) dL_does_541 rfl ?_
            replace h := Option.bind_eq_some_iff.mp h; obtain ⟨r48, hr48, h⟩ := h
            refine ev_aL dL_does_542 hr48 rfl ?_
            refine ev_istore (q := 545) dL_does_543 rfl (by decide) ?_
            refine ev_aload_n (q := 546) dL_does_545 rfl rfl ?_
            refine ev_bipush (q := 548) (v := (24 : Int32)) dL_does_546 rfl (by decide) ?_
            refine ev_iload (q := 550) dL_does_548 rfl rfl ?_
            refine ev_iadd (q := 551) dL_does_550 rfl ?_
            refine ev_iload_n (q := 552) dL_does_551 rfl rfl ?_
            refine ev_bipush (q := 554) (v := (6 : Int32)) dL_does_552 rfl (by decide) ?_
            refine ev_ishr (q := 555) dL_does_554 rfl ?_
            refine ev_iconst (q := 556) (v := (5 : Int32)) dL_does_555 rfl (by decide) ?_
            replace h := Option.bind_eq_some_iff.mp h; obtain ⟨r49, hr49, h⟩ := h
            refine ev_invS (M1 := M_L_at) (as := [vi (v3 >>> ((6 : Int32) &&& 31)), vi ((5 : Int32))]) dL_does_556 rfl tw_659 cal_L_at tw_660 (by decide) rfl rfl (Nat.le_of_ble_eq_true rfl) (met_L_at (v3 >>> ((6 : Int32) &&& 31)) (5 : Int32) w _ hr49) ?_
            replace h := Option.bind_eq_some_iff.mp h; obtain ⟨w50, hw50, h⟩ := h
            refine ev_aS dL_does_559 hw50 rfl ?_
            refine ev_aload_n (q := 561) dL_does_560 rfl rfl ?_
            refine ev_bipush (q := 563) (v := (28 : Int32)) dL_does_561 rfl (by decide) ?_
            refine ev_iload (q := 565) dL_does_563 rfl rfl ?_
            refine ev_iadd (q := 566) dL_does_565 rfl ?_
            refine ev_iload_n (q := 567) dL_does_566 rfl rfl ?_
            refine ev_bipush (q := 569) (v := (9 : Int32)) dL_does_567 rfl (by decide) ?_
            refine ev_ishr (q := 570) dL_does_569 rfl ?_
            refine ev_iconst (q := 571) (v := (5 : Int32)) dL_does_570 rfl (by decide) ?_
            replace h := Option.bind_eq_some_iff.mp h; obtain ⟨r51, hr51, h⟩ := h
            refine ev_invS (M1 := M_L_at) (as := [vi (v3 >>> ((9 : Int32) &&& 31)), vi ((5 : Int32))]) dL_does_571 rfl tw_659 cal_L_at tw_660 (by decide) rfl rfl (Nat.le_of_ble_eq_true rfl) (met_L_at (v3 >>> ((9 : Int32) &&& 31)) (5 : Int32) w50 _ hr51) ?_
            replace h := Option.bind_eq_some_iff.mp h; obtain ⟨w52, hw52, h⟩ := h
            refine ev_aS dL_does_574 hw52 rfl ?_
            refine ev_aload_n (q := 576) dL_does_575 rfl rfl ?_
            refine ev_iload (q := 578) dL_does_576 rfl rfl ?_
            refine ev_aload_n (q := 579) dL_does_578 rfl rfl ?_
            refine ev_bipush (q := 581) (v := (24 : Int32)) dL_does_579 rfl (by decide) ?_
            refine ev_iload (q := 583) dL_does_581 rfl rfl ?_
            refine ev_iadd (q := 584) dL_does_583 rfl ?_
            replace h := Option.bind_eq_some_iff.mp h; obtain ⟨r53, hr53, h⟩ := h
            refine ev_aL dL_does_584 hr53 rfl ?_
            refine ev_aload_n (q := 586) dL_does_585 rfl rfl ?_
            refine ev_bipush (q := 588) (v := (28 : Int32)) dL_does_586 rfl (by decide) ?_
            refine ev_iload (q := 590) dL_does_588 rfl rfl ?_
            refine ev_iadd (q := 591) dL_does_590 rfl ?_
            replace h := Option.bind_eq_some_iff.mp h; obtain ⟨r54, hr54, h⟩ := h
            refine ev_aL dL_does_591 hr54 rfl ?_
            replace h := Option.bind_eq_some_iff.mp h; obtain ⟨q56, hq56, h⟩ := h
            obtain ⟨hxq56, fsq56, hkq56⟩ := kO_spec hq56
            subst hxq56
            replace h := Option.bind_eq_some_iff.mp h; obtain ⟨r55, hr55, h⟩ := h
            refine ev_invV (M1 := M_X10_train) (as := [vi r46, vi r53, vi r54]) (fs := fsq56) (ci := 10) dL_does_592 rfl tw_620 cal_X10_train tw_621 tw_622 (by decide) rfl rfl (Nat.le_of_ble_eq_true rfl) hkq56 rfl (met_X10_train q56 r46 r53 r54 w52 _ hr55) ?_
            refine ev_iload (q := 597) dL_does_595 rfl rfl ?_
            by_cases hc : r55.1 = r48
            · rw [if_pos hc] at h
              refine ev_icmp_ne_f (q := 600) (t0 := 604) dL_does_597 (by decide) rfl hc ?_
              refine ev_iconst (q := 601) (v := (1 : Int32)) dL_does_600 rfl (by decide) ?_
              refine ev_goto (q := 605) dL_does_601 (by decide) ?_
              exact ev_weak _ (mLe_none (mLe_none (mLe_none (mLe_none (mLe_none (mLe_none (mLe_none (mLe_none (mLe_none mLe_nil))))))))) (e_L_does_J605 (1 : Int32) r55.2 _ h)
            · rw [if_neg hc] at h
              refine ev_icmp_ne_t (q := 604) dL_does_597 (by decide) hc ?_
              refine ev_iconst (q := 605) (v := (0 : Int32)) dL_does_604 rfl (by decide) ?_
              exact ev_weak _ (mLe_none (mLe_none (mLe_none (mLe_none (mLe_none (mLe_none (mLe_none (mLe_none (mLe_none mLe_nil))))))))) (e_L_does_J605 (0 : Int32) r55.2 _ h)
          · rw [if_neg hc] at h
            refine ev_icmp_ne_t (q := 606) dL_does_533 (by decide) hc ?_
            refine ev_iconst (q := 607) (v := (1 : Int32)) dL_does_606 rfl (by decide) ?_
            refine ev_iload_n (q := 608) dL_does_607 rfl rfl ?_
            refine ev_iconst (q := 609) (v := (4 : Int32)) dL_does_608 rfl (by decide) ?_
            refine ev_ishr (q := 610) dL_does_609 rfl ?_
            refine ev_iload_n (q := 611) dL_does_610 rfl rfl ?_
            refine ev_bipush (q := 613) (v := (10 : Int32)) dL_does_611 rfl (by decide) ?_
            refine ev_ishr (q := 614) dL_does_613 rfl ?_
            refine ev_iconst (q := 615) (v := (2 : Int32)) dL_does_614 rfl (by decide) ?_
            replace h := Option.bind_eq_some_iff.mp h; obtain ⟨r47, hr47, h⟩ := h
            refine ev_invS (M1 := M_L_at) (as := [vi (v3 >>> ((10 : Int32) &&& 31)), vi ((2 : Int32))]) dL_does_615 rfl tw_659 cal_L_at tw_660 (by decide) rfl rfl (Nat.le_of_ble_eq_true rfl) (met_L_at (v3 >>> ((10 : Int32) &&& 31)) (2 : Int32) w _ hr47) ?_
            by_cases hc : r47 = 0
            · rw [if_pos hc] at h
              refine ev_if_ne_f (q := 621) (t0 := 626) dL_does_618 (by decide) rfl hc ?_
              refine ev_bipush (q := 623) (v := (60 : Int32)) dL_does_621 rfl (by decide) ?_
              refine ev_goto (q := 628) dL_does_623 (by decide) ?_
              exact ev_weak _ (mLe_some (mLe_none (mLe_some (mLe_none (mLe_none (mLe_none (mLe_none (mLe_none (mLe_none mLe_nil))))))))) (e_L_does_J628 v0 v2 (1 : Int32) (v3 >>> ((4 : Int32) &&& 31)) (60 : Int32) w _ h)
            · rw [if_neg hc] at h
              refine ev_if_ne_t (q := 626) dL_does_618 (by decide) hc ?_
              refine ev_bipush (q := 628) (v := (9 : Int32)) dL_does_626 rfl (by decide) ?_
              exact ev_weak _ (mLe_some (mLe_none (mLe_some (mLe_none (mLe_none (mLe_none (mLe_none (mLe_none (mLe_none mLe_nil))))))))) (e_L_does_J628 v0 v2 (1 : Int32) (v3 >>> ((4 : Int32) &&& 31)) (9 : Int32) w _ h)
        · rw [if_neg hc] at h
          refine ev_icmp_ge_f (q := 416) (t0 := 529) dL_does_413 (by decide) rfl hc ?_
          refine ev_iload_n (q := 417) dL_does_416 rfl rfl ?_
          refine ev_iconst (q := 418) (v := (4 : Int32)) dL_does_417 rfl (by decide) ?_
          refine ev_ishr (q := 419) dL_does_418 rfl ?_
          refine ev_aload_n (q := 420) dL_does_419 rfl rfl ?_
          refine ev_iconst (q := 421) (v := (0 : Int32)) dL_does_420 rfl (by decide) ?_
          replace h := Option.bind_eq_some_iff.mp h; obtain ⟨r57, hr57, h⟩ := h
          refine ev_aL dL_does_421 hr57 rfl ?_
          replace h := Option.bind_eq_some_iff.mp h; obtain ⟨r58, hr58, h⟩ := h
          refine ev_invS (M1 := M_L_at) (as := [vi (v3 >>> ((4 : Int32) &&& 31)), vi r57]) dL_does_422 rfl tw_659 cal_L_at tw_660 (by decide) rfl rfl (Nat.le_of_ble_eq_true rfl) (met_L_at (v3 >>> ((4 : Int32) &&& 31)) r57 w _ hr58) ?_
          refine ev_istore (q := 427) dL_does_425 rfl (by decide) ?_
          refine ev_iload_n (q := 428) dL_does_427 rfl rfl ?_
          refine ev_bipush (q := 430) (v := (7 : Int32)) dL_does_428 rfl (by decide) ?_
          refine ev_ishr (q := 431) dL_does_430 rfl ?_
          refine ev_bipush (q := 433) (v := (36 : Int32)) dL_does_431 rfl (by decide) ?_
          replace h := Option.bind_eq_some_iff.mp h; obtain ⟨r59, hr59, h⟩ := h
          refine ev_invS (M1 := M_L_at) (as := [vi (v3 >>> ((7 : Int32) &&& 31)), vi ((36 : Int32))]) dL_does_433 rfl tw_659 cal_L_at tw_660 (by decide) rfl rfl (Nat.le_of_ble_eq_true rfl) (met_L_at (v3 >>> ((7 : Int32) &&& 31)) (36 : Int32) w _ hr59) ?_
          refine ev_istore (q := 438) dL_does_436 rfl (by decide) ?_
          refine ev_iconst (q := 439) (v := (0 : Int32)) dL_does_438 rfl (by decide) ?_
          refine ev_istore (q := 441) dL_does_439 rfl (by decide) ?_
          replace h := Option.bind_eq_some_iff.mp h; obtain ⟨e60, he60, h⟩ := h
          refine ev_weak _ (mLe_some (mLe_some (mLe_some (mLe_none (mLe_none (mLe_none (mLe_some (mLe_some (mLe_some mLe_nil))))))))) (e_L_does_L441 (fun z => e60 = z) v0 v1 v2 r58 r59 (fun y67 hq => ?_) (fun y61 hq => ?_) mFuel (0 : Int32) w _ he60 rfl)
          · subst hq
            dsimp only at h
            cases h
            exact ⟨rfl, rfl⟩
          · subst hq
            dsimp only at h
            refine ev_aload_n (q := 491) dL_does_490 rfl rfl ?_
            refine ev_iload (q := 493) dL_does_491 rfl rfl ?_
            replace h := Option.bind_eq_some_iff.mp h; obtain ⟨r62, hr62, h⟩ := h
            refine ev_aL dL_does_493 hr62 rfl ?_
            refine ev_istore (q := 496) dL_does_494 rfl (by decide) ?_
            refine ev_aload_n (q := 497) dL_does_496 rfl rfl ?_
            refine ev_iload (q := 499) dL_does_497 rfl rfl ?_
            refine ev_iload (q := 501) dL_does_499 rfl rfl ?_
            replace h := Option.bind_eq_some_iff.mp h; obtain ⟨w63, hw63, h⟩ := h
            refine ev_aS dL_does_501 hw63 rfl ?_
            refine ev_aload_n (q := 503) dL_does_502 rfl rfl ?_
            refine ev_bipush (q := 505) (v := (6 : Int32)) dL_does_503 rfl (by decide) ?_
            refine ev_iload (q := 507) dL_does_505 rfl rfl ?_
            refine ev_iadd (q := 508) dL_does_507 rfl ?_
            refine ev_iconst (q := 509) (v := (0 : Int32)) dL_does_508 rfl (by decide) ?_
            replace h := Option.bind_eq_some_iff.mp h; obtain ⟨w64, hw64, h⟩ := h
            refine ev_aS dL_does_509 hw64 rfl ?_
            refine ev_aload_n (q := 511) dL_does_510 rfl rfl ?_
            refine ev_iload (q := 513) dL_does_511 rfl rfl ?_
            refine ev_iload (q := 515) dL_does_513 rfl rfl ?_
            replace h := Option.bind_eq_some_iff.mp h; obtain ⟨q66, hq66, h⟩ := h
            obtain ⟨hxq66, fsq66, hkq66⟩ := kO_spec hq66
            subst hxq66
            replace h := Option.bind_eq_some_iff.mp h; obtain ⟨r65, hr65, h⟩ := h
            refine ev_invV (M1 := M_X10_move) (as := [vi r58, vi r59]) (fs := fsq66) (ci := 10) dL_does_515 rfl tw_616 cal_X10_move tw_617 tw_618 (by decide) rfl rfl (Nat.le_of_ble_eq_true rfl) hkq66 rfl (met_X10_move q66 r58 r59 w64 _ hr65) ?_
            refine ev_iload (q := 520) dL_does_518 rfl rfl ?_
            by_cases hc : r65.1 = r62
            · rw [if_pos hc] at h
              refine ev_icmp_ne_f (q := 523) (t0 := 527) dL_does_520 (by decide) rfl hc ?_
              refine ev_iconst (q := 524) (v := (1 : Int32)) dL_does_523 rfl (by decide) ?_
              refine ev_goto (q := 528) dL_does_524 (by decide) ?_
              exact ev_weak _ (mLe_none (mLe_none (mLe_none (mLe_none (mLe_none (mLe_none (mLe_none (mLe_none (mLe_none mLe_nil))))))))) (e_L_does_J528 (1 : Int32) r65.2 _ h)
            · rw [if_neg hc] at h
              refine ev_icmp_ne_t (q := 527) dL_does_520 (by decide) hc ?_
              refine ev_iconst (q := 528) (v := (0 : Int32)) dL_does_527 rfl (by decide) ?_
              exact ev_weak _ (mLe_none (mLe_none (mLe_none (mLe_none (mLe_none (mLe_none (mLe_none (mLe_none (mLe_none mLe_nil))))))))) (e_L_does_J528 (0 : Int32) r65.2 _ h)
      · rw [if_neg hc] at h
        refine ev_icmp_ge_f (q := 310) (t0 := 409) dL_does_307 (by decide) rfl hc ?_
        refine ev_iconst (q := 311) (v := (0 : Int32)) dL_does_310 rfl (by decide) ?_
        refine ev_istore (q := 313) dL_does_311 rfl (by decide) ?_
        refine ev_iconst (q := 314) (v := (0 : Int32)) dL_does_313 rfl (by decide) ?_
        refine ev_istore (q := 316) dL_does_314 rfl (by decide) ?_
        replace h := Option.bind_eq_some_iff.mp h; obtain ⟨e68, he68, h⟩ := h
        refine ev_weak _ (mLe_some (mLe_some (mLe_some (mLe_none (mLe_none (mLe_none (mLe_some (mLe_some (mLe_none mLe_nil))))))))) (e_L_does_L316 (fun z => e68 = z) v0 v1 v2 (fun e68q hq => ?_) mFuel (0 : Int32) (0 : Int32) w _ he68 rfl)
        subst hq
        refine ev_aload_n (q := 387) dL_does_386 rfl rfl ?_
        refine ev_bipush (q := 389) (v := (38 : Int32)) dL_does_387 rfl (by decide) ?_
        refine ev_dup2 (q := 390) dL_does_389 rfl rfl rfl ?_
        replace h := Option.bind_eq_some_iff.mp h; obtain ⟨r69, hr69, h⟩ := h
        refine ev_aL dL_does_390 hr69 rfl ?_
        refine ev_iconst (q := 392) (v := (1 : Int32)) dL_does_391 rfl (by decide) ?_
        refine ev_iadd (q := 393) dL_does_392 rfl ?_
        replace h := Option.bind_eq_some_iff.mp h; obtain ⟨w70, hw70, h⟩ := h
        refine ev_aS dL_does_393 hw70 rfl ?_
        refine ev_aload_n (q := 395) dL_does_394 rfl rfl ?_
        replace h := Option.bind_eq_some_iff.mp h; obtain ⟨q72, hq72, h⟩ := h
        obtain ⟨hxq72, fsq72, hkq72⟩ := kO_spec hq72
        subst hxq72
        replace h := Option.bind_eq_some_iff.mp h; obtain ⟨r71, hr71, h⟩ := h
        refine ev_invV (M1 := M_X10_morning) (as := []) (fs := fsq72) (ci := 10) dL_does_395 rfl tw_711 cal_X10_morning tw_712 tw_713 (by decide) rfl rfl (Nat.le_of_ble_eq_true rfl) hkq72 rfl (met_X10_morning q72  w70 _ hr71) ?_
        refine ev_iload (q := 400) dL_does_398 rfl rfl ?_
        by_cases hc : r71.1 = e68.1
        · rw [if_pos hc] at h
          refine ev_icmp_ne_f (q := 403) (t0 := 407) dL_does_400 (by decide) rfl hc ?_
          refine ev_iconst (q := 404) (v := (1 : Int32)) dL_does_403 rfl (by decide) ?_
          refine ev_goto (q := 408) dL_does_404 (by decide) ?_
          exact ev_weak _ (mLe_none (mLe_none (mLe_none (mLe_none (mLe_none (mLe_none (mLe_none (mLe_none (mLe_none mLe_nil))))))))) (e_L_does_J408 (1 : Int32) r71.2 _ h)
        · rw [if_neg hc] at h
          refine ev_icmp_ne_t (q := 407) dL_does_400 (by decide) hc ?_
          refine ev_iconst (q := 408) (v := (0 : Int32)) dL_does_407 rfl (by decide) ?_
          exact ev_weak _ (mLe_none (mLe_none (mLe_none (mLe_none (mLe_none (mLe_none (mLe_none (mLe_none (mLe_none mLe_nil))))))))) (e_L_does_J408 (0 : Int32) r71.2 _ h)
    · rw [if_neg hc] at h
      refine ev_icmp_ge_f (q := 262) (t0 := 303) dL_does_259 (by decide) rfl hc ?_
      refine ev_aload_n (q := 263) dL_does_262 rfl rfl ?_
      refine ev_bipush (q := 265) (v := (36 : Int32)) dL_does_263 rfl (by decide) ?_
      replace h := Option.bind_eq_some_iff.mp h; obtain ⟨r73, hr73, h⟩ := h
      refine ev_aL dL_does_265 hr73 rfl ?_
      refine ev_istore (q := 268) dL_does_266 rfl (by decide) ?_
      refine ev_aload_n (q := 269) dL_does_268 rfl rfl ?_
      refine ev_bipush (q := 271) (v := (36 : Int32)) dL_does_269 rfl (by decide) ?_
      refine ev_iload_n (q := 272) dL_does_271 rfl rfl ?_
      refine ev_bipush (q := 274) (v := (6 : Int32)) dL_does_272 rfl (by decide) ?_
      refine ev_ishr (q := 275) dL_does_274 rfl ?_
      refine ev_iconst (q := 276) (v := (3 : Int32)) dL_does_275 rfl (by decide) ?_
      replace h := Option.bind_eq_some_iff.mp h; obtain ⟨r74, hr74, h⟩ := h
      refine ev_invS (M1 := M_L_at) (as := [vi (v3 >>> ((6 : Int32) &&& 31)), vi ((3 : Int32))]) dL_does_276 rfl tw_659 cal_L_at tw_660 (by decide) rfl rfl (Nat.le_of_ble_eq_true rfl) (met_L_at (v3 >>> ((6 : Int32) &&& 31)) (3 : Int32) w _ hr74) ?_
      refine ev_iconst (q := 280) (v := (1 : Int32)) dL_does_279 rfl (by decide) ?_
      refine ev_isub (q := 281) dL_does_280 rfl ?_
      replace h := Option.bind_eq_some_iff.mp h; obtain ⟨w75, hw75, h⟩ := h
      refine ev_aS dL_does_281 hw75 rfl ?_
      refine ev_aload_n (q := 283) dL_does_282 rfl rfl ?_
      refine ev_aload_n (q := 284) dL_does_283 rfl rfl ?_
      refine ev_bipush (q := 286) (v := (36 : Int32)) dL_does_284 rfl (by decide) ?_
      replace h := Option.bind_eq_some_iff.mp h; obtain ⟨r76, hr76, h⟩ := h
      refine ev_aL dL_does_286 hr76 rfl ?_
      replace h := Option.bind_eq_some_iff.mp h; obtain ⟨q78, hq78, h⟩ := h
      obtain ⟨hxq78, fsq78, hkq78⟩ := kO_spec hq78
      subst hxq78
      replace h := Option.bind_eq_some_iff.mp h; obtain ⟨r77, hr77, h⟩ := h
      refine ev_invV (M1 := M_X10_wind) (as := [vi r76]) (fs := fsq78) (ci := 10) dL_does_287 rfl tw_612 cal_X10_wind tw_613 tw_614 (by decide) rfl rfl (Nat.le_of_ble_eq_true rfl) hkq78 rfl (met_X10_wind q78 r76 w75 _ hr77) ?_
      refine ev_iload (q := 292) dL_does_290 rfl rfl ?_
      refine ev_iconst (q := 293) (v := (1 : Int32)) dL_does_292 rfl (by decide) ?_
      refine ev_iadd (q := 294) dL_does_293 rfl ?_
      by_cases hc : r77.1 = r73 + (1 : Int32)
      · rw [if_pos hc] at h
        refine ev_icmp_ne_f (q := 297) (t0 := 301) dL_does_294 (by decide) rfl hc ?_
        refine ev_iconst (q := 298) (v := (1 : Int32)) dL_does_297 rfl (by decide) ?_
        refine ev_goto (q := 302) dL_does_298 (by decide) ?_
        exact ev_weak _ (mLe_none (mLe_none (mLe_none (mLe_none (mLe_none (mLe_none (mLe_none (mLe_none (mLe_none mLe_nil))))))))) (e_L_does_J302 (1 : Int32) r77.2 _ h)
      · rw [if_neg hc] at h
        refine ev_icmp_ne_t (q := 301) dL_does_294 (by decide) hc ?_
        refine ev_iconst (q := 302) (v := (0 : Int32)) dL_does_301 rfl (by decide) ?_
        exact ev_weak _ (mLe_none (mLe_none (mLe_none (mLe_none (mLe_none (mLe_none (mLe_none (mLe_none (mLe_none mLe_nil))))))))) (e_L_does_J302 (0 : Int32) r77.2 _ h)
  · rw [if_neg hc] at h
    refine ev_icmp_ge_f (q := 26) (t0 := 255) dL_does_23 (by decide) rfl hc ?_
    refine ev_iload_n (q := 27) dL_does_26 rfl rfl ?_
    refine ev_bipush (q := 29) (v := (6 : Int32)) dL_does_27 rfl (by decide) ?_
    refine ev_ishr (q := 30) dL_does_29 rfl ?_
    refine ev_bipush (q := 32) (v := (36 : Int32)) dL_does_30 rfl (by decide) ?_
    replace h := Option.bind_eq_some_iff.mp h; obtain ⟨r79, hr79, h⟩ := h
    refine ev_invS (M1 := M_L_at) (as := [vi (v3 >>> ((6 : Int32) &&& 31)), vi ((36 : Int32))]) dL_does_32 rfl tw_659 cal_L_at tw_660 (by decide) rfl rfl (Nat.le_of_ble_eq_true rfl) (met_L_at (v3 >>> ((6 : Int32) &&& 31)) (36 : Int32) w _ hr79) ?_
    refine ev_istore (q := 37) dL_does_35 rfl (by decide) ?_
    refine ev_iload (q := 39) dL_does_37 rfl rfl ?_
    refine ev_iconst (q := 40) (v := (2 : Int32)) dL_does_39 rfl (by decide) ?_
    by_cases hc : r44 ≤ (2 : Int32)
    · rw [if_pos hc] at h
      refine ev_icmp_le_t (q := 90) dL_does_40 (by decide) hc ?_
      exact ev_weak _ (mLe_some (mLe_some (mLe_some (mLe_none (mLe_none (mLe_some (mLe_some (mLe_none (mLe_none mLe_nil))))))))) (e_L_does_J90 v0 v1 v2 r46 r79 w _ h)
    · rw [if_neg hc] at h
      refine ev_icmp_le_f (q := 43) (t0 := 90) dL_does_40 (by decide) rfl hc ?_
      refine ev_aload_n (q := 44) dL_does_43 rfl rfl ?_
      refine ev_iload_n (q := 45) dL_does_44 rfl rfl ?_
      refine ev_bipush (q := 47) (v := (6 : Int32)) dL_does_45 rfl (by decide) ?_
      refine ev_ishr (q := 48) dL_does_47 rfl ?_
      refine ev_aload_n (q := 49) dL_does_48 rfl rfl ?_
      refine ev_iconst (q := 50) (v := (0 : Int32)) dL_does_49 rfl (by decide) ?_
      replace h := Option.bind_eq_some_iff.mp h; obtain ⟨r80, hr80, h⟩ := h
      refine ev_aL dL_does_50 hr80 rfl ?_
      replace h := Option.bind_eq_some_iff.mp h; obtain ⟨r81, hr81, h⟩ := h
      refine ev_invS (M1 := M_L_at) (as := [vi (v3 >>> ((6 : Int32) &&& 31)), vi r80]) dL_does_51 rfl tw_659 cal_L_at tw_660 (by decide) rfl rfl (Nat.le_of_ble_eq_true rfl) (met_L_at (v3 >>> ((6 : Int32) &&& 31)) r80 w _ hr81) ?_
      replace h := Option.bind_eq_some_iff.mp h; obtain ⟨r82, hr82, h⟩ := h
      refine ev_aL dL_does_54 hr82 rfl ?_
      refine ev_bipush (q := 57) (v := (6 : Int32)) dL_does_55 rfl (by decide) ?_
      refine ev_aload_n (q := 58) dL_does_57 rfl rfl ?_
      refine ev_bipush (q := 60) (v := (24 : Int32)) dL_does_58 rfl (by decide) ?_
      refine ev_iload (q := 62) dL_does_60 rfl rfl ?_
      refine ev_iadd (q := 63) dL_does_62 rfl ?_
      replace h := Option.bind_eq_some_iff.mp h; obtain ⟨r83, hr83, h⟩ := h
      refine ev_aL dL_does_63 hr83 rfl ?_
      refine ev_iconst (q := 65) (v := (2 : Int32)) dL_does_64 rfl (by decide) ?_
      refine ev_isub (q := 66) dL_does_65 rfl ?_
      refine ev_imul (q := 67) dL_does_66 rfl ?_
      refine ev_isub (q := 68) dL_does_67 rfl ?_
      refine ev_aload_n (q := 69) dL_does_68 rfl rfl ?_
      refine ev_bipush (q := 71) (v := (28 : Int32)) dL_does_69 rfl (by decide) ?_
      refine ev_iload (q := 73) dL_does_71 rfl rfl ?_
      refine ev_iadd (q := 74) dL_does_73 rfl ?_
      replace h := Option.bind_eq_some_iff.mp h; obtain ⟨r84, hr84, h⟩ := h
      refine ev_aL dL_does_74 hr84 rfl ?_
      refine ev_iconst (q := 76) (v := (2 : Int32)) dL_does_75 rfl (by decide) ?_
      refine ev_isub (q := 77) dL_does_76 rfl ?_
      refine ev_isub (q := 78) dL_does_77 rfl ?_
      refine ev_aload_n (q := 79) dL_does_78 rfl rfl ?_
      refine ev_bipush (q := 81) (v := (36 : Int32)) dL_does_79 rfl (by decide) ?_
      replace h := Option.bind_eq_some_iff.mp h; obtain ⟨r85, hr85, h⟩ := h
      refine ev_aL dL_does_81 hr85 rfl ?_
      refine ev_isub (q := 83) dL_does_82 rfl ?_
      refine ev_iload (q := 85) dL_does_83 rfl rfl ?_
      refine ev_iconst (q := 86) (v := (5 : Int32)) dL_does_85 rfl (by decide) ?_
      refine ev_isub (q := 87) dL_does_86 rfl ?_
      refine ev_iadd (q := 88) dL_does_87 rfl ?_
      refine ev_istore (q := 90) dL_does_88 rfl (by decide) ?_
      exact ev_weak _ (mLe_some (mLe_some (mLe_some (mLe_none (mLe_none (mLe_some (mLe_some (mLe_none (mLe_none mLe_nil))))))))) (e_L_does_J90 v0 v1 v2 r46 ((((r82 - ((6 : Int32) * (r83 - (2 : Int32)))) - (r84 - (2 : Int32))) - r85) + (r44 - (5 : Int32))) w _ h)
