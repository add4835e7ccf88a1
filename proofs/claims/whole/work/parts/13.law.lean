def mS (X : mXs) (i : Int32) : Option Int32 := if i.toNatClampNeg < X.1 ∧ ¬ i < 0 then some (X.2 i.toNatClampNeg) else none
theorem ev_mS {X : mXs} {M : mM} {d : Nat} {r : Option mV} {w' : mW} {pc q : Nat} {L : List (Option mV)} {st : List mV} {w : mW} {i v : Int32} (hd : decode M.2.1 pc = .ok (.iaload, 1)) (h : mS X i = some v) (hq : pc + 1 = q) (kk : mEv X M d r w' q L (vi v :: st) w) : mEv X M d r w' pc L (vi i :: vx 0 :: st) w := by
  unfold mS at h
  split at h
  · rename_i hi
    cases h
    exact ev_sld hd hq (vp_in_mk hi) kk
  · cases h
abbrev M_L_law : mM := (yL_law, cL_law, 4, some .boolean)
def f_L_law_J811 (X : mXs) (kc : Int32 → mW → Option ((Int32 × mW) ⊕ (mW))) (v1 : Option Nat) (v2 : Option Nat) (v3 : Int32) (w : mW) : Option ((Int32 × mW) ⊕ (mW)) := kc (v3 + (4 : Int32)) w
set_option maxRecDepth 100000 in
set_option maxHeartbeats 4000000 in
theorem e_L_law_J811 {X : mXs} {r : Option mV} {w' : mW} (P : ((Int32 × mW) ⊕ (mW)) → Prop) (v1 : Option Nat) (v2 : Option Nat) (v3 : Int32) (w : mW) (kc : Int32 → mW → Option ((Int32 × mW) ⊕ (mW))) (hk : ∀ (u3 : Int32) (uw : mW) (e : (Int32 × mW) ⊕ (mW)), kc u3 uw = some e → P e → mEv X M_L_law 9 r w' 18 [some (vx 0), some (vr v1), some (vr v2), some (vi u3)] [] uw) (e : (Int32 × mW) ⊕ (mW)) (h : f_L_law_J811 X kc v1 v2 v3 w = some e) (hP : P e) : mEv X M_L_law 9 r w' 811 [some (vx 0), some (vr v1), some (vr v2), some (vi v3)] [] w := by
  unfold f_L_law_J811 at h
  refine ev_iinc (q := 814) (v := v3 + (4 : Int32)) dL_law_811 rfl (by decide) rfl (by rfl) ?_
  refine ev_goto (q := 18) dL_law_814 (by decide) ?_
  exact ev_weak _ (mLe_some (mLe_some (mLe_some (mLe_some mLe_nil)))) (hk (v3 + (4 : Int32)) w _ h hP)
def f_L_law_L18 (X : mXs) (v1 : Option Nat) (v2 : Option Nat) : Nat → Int32 → mW → Option ((Int32 × mW) ⊕ (mW))
  | 0, _, _ => none
  | n + 1, v3, w => if (Int32.ofNat X.1) - (4 : Int32) < v3 then (some (.inr w)) else (Option.bind (mS X v3) fun r1 => if r1 &&& (31 : Int32) = 0 then (Option.bind (mS X (v3 + (1 : Int32))) fun r2 => Option.bind (kO w v1 10) fun q4 => Option.bind (f_X10_letter q4 r2 w) fun r3 => Option.bind (mS X (v3 + (1 : Int32))) fun r5 => Option.bind (kO r3.2 v2 11) fun q7 => Option.bind (f_X11_letter q7 r5 r3.2) fun r6 => if r3.1 = r6.1 then (f_L_law_J811 X (f_L_law_L18 X v1 v2 n) (some q4) (some q7) v3 r6.2) else (some (.inl ((0 : Int32), r6.2)))) else (if r1 &&& (31 : Int32) = 1 then (Option.bind (kO w v1 10) fun q9 => Option.bind (f_X10_blank q9  w) fun r8 => Option.bind (kO r8.2 v2 11) fun q11 => Option.bind (f_X11_blank q11  r8.2) fun r10 => if r8.1 = r10.1 then (f_L_law_J811 X (f_L_law_L18 X v1 v2 n) (some q9) (some q11) v3 r10.2) else (some (.inl ((0 : Int32), r10.2)))) else (if r1 &&& (31 : Int32) = 2 then (Option.bind (kO w v1 10) fun q13 => Option.bind (f_X10_fault q13  w) fun r12 => Option.bind (kO r12.2 v2 11) fun q15 => Option.bind (f_X11_fault q15  r12.2) fun r14 => if r12.1 = r14.1 then (f_L_law_J811 X (f_L_law_L18 X v1 v2 n) (some q13) (some q15) v3 r14.2) else (some (.inl ((0 : Int32), r14.2)))) else (if r1 &&& (31 : Int32) = 3 then (Option.bind (kO w v1 10) fun q17 => Option.bind (f_X10_port q17  w) fun r16 => Option.bind (kO r16.2 v2 11) fun q19 => Option.bind (f_X11_port q19  r16.2) fun r18 => if r16.1 = r18.1 then (f_L_law_J811 X (f_L_law_L18 X v1 v2 n) (some q17) (some q19) v3 r18.2) else (some (.inl ((0 : Int32), r18.2)))) else (if r1 &&& (31 : Int32) = 4 then (Option.bind (mS X (v3 + (1 : Int32))) fun r20 => Option.bind (mS X (v3 + (2 : Int32))) fun r21 => Option.bind (kO w v1 10) fun q23 => Option.bind (f_X10_sleeper q23 r20 r21 w) fun r22 => Option.bind (mS X (v3 + (1 : Int32))) fun r24 => Option.bind (mS X (v3 + (2 : Int32))) fun r25 => Option.bind (kO r22.2 v2 11) fun q27 => Option.bind (f_X11_sleeper q27 r24 r25 r22.2) fun r26 => if r22.1 = r26 then (f_L_law_J811 X (f_L_law_L18 X v1 v2 n) (some q23) (some q27) v3 r22.2) else (some (.inl ((0 : Int32), r22.2)))) else (if r1 &&& (31 : Int32) = 5 then (Option.bind (mS X (v3 + (1 : Int32))) fun r28 => Option.bind (mS X (v3 + (2 : Int32))) fun r29 => Option.bind (kO w v1 10) fun q31 => Option.bind (f_X10_tosser q31 r28 r29 w) fun r30 => Option.bind (mS X (v3 + (1 : Int32))) fun r32 => Option.bind (mS X (v3 + (2 : Int32))) fun r33 => Option.bind (kO w v2 11) fun q35 => Option.bind (f_X11_tosser q35 r32 r33 w) fun r34 => if r30 = r34 then (f_L_law_J811 X (f_L_law_L18 X v1 v2 n) (some q31) (some q35) v3 w) else (some (.inl ((0 : Int32), w)))) else (if r1 &&& (31 : Int32) = 6 then (Option.bind (mS X (v3 + (1 : Int32))) fun r36 => Option.bind (mS X (v3 + (2 : Int32))) fun r37 => Option.bind (kO w v1 10) fun q39 => Option.bind (f_X10_as q39 r36 r37 w) fun r38 => Option.bind (mS X (v3 + (1 : Int32))) fun r40 => Option.bind (mS X (v3 + (2 : Int32))) fun r41 => Option.bind (kO w v2 11) fun q43 => Option.bind (f_X11_as q43 r40 r41 w) fun r42 => if r38 = r42 then (f_L_law_J811 X (f_L_law_L18 X v1 v2 n) (some q39) (some q43) v3 w) else (some (.inl ((0 : Int32), w)))) else (if r1 &&& (31 : Int32) = 7 then (Option.bind (mS X (v3 + (1 : Int32))) fun r44 => Option.bind (mS X (v3 + (2 : Int32))) fun r45 => Option.bind (kO w v1 10) fun q47 => Option.bind (f_X10_lands q47 r44 r45 w) fun r46 => Option.bind (mS X (v3 + (1 : Int32))) fun r48 => Option.bind (mS X (v3 + (2 : Int32))) fun r49 => Option.bind (kO w v2 11) fun q51 => Option.bind (f_X11_lands q51 r48 r49 w) fun r50 => if r46 = r50 then (f_L_law_J811 X (f_L_law_L18 X v1 v2 n) (some q47) (some q51) v3 w) else (some (.inl ((0 : Int32), w)))) else (if r1 &&& (31 : Int32) = 8 then (Option.bind (mS X (v3 + (1 : Int32))) fun r52 => Option.bind (mS X (v3 + (2 : Int32))) fun r53 => Option.bind (kO w v1 10) fun q55 => Option.bind (f_X10_covers q55 r52 r53 w) fun r54 => Option.bind (mS X (v3 + (1 : Int32))) fun r56 => Option.bind (mS X (v3 + (2 : Int32))) fun r57 => Option.bind (kO w v2 11) fun q59 => Option.bind (f_X11_covers q59 r56 r57 w) fun r58 => if r54 = r58 then (f_L_law_J811 X (f_L_law_L18 X v1 v2 n) (some q55) (some q59) v3 w) else (some (.inl ((0 : Int32), w)))) else (if r1 &&& (31 : Int32) = 9 then (Option.bind (mS X (v3 + (1 : Int32))) fun r60 => Option.bind (mS X (v3 + (2 : Int32))) fun r61 => Option.bind (kO w v1 10) fun q63 => Option.bind (f_X10_toss q63 r60 r61 w) fun r62 => Option.bind (mS X (v3 + (1 : Int32))) fun r64 => Option.bind (mS X (v3 + (2 : Int32))) fun r65 => Option.bind (kO r62.2 v2 11) fun q67 => Option.bind (f_X11_toss q67 r64 r65 r62.2) fun r66 => if r62.1 = r66.1 then (f_L_law_J811 X (f_L_law_L18 X v1 v2 n) (some q63) (some q67) v3 r66.2) else (some (.inl ((0 : Int32), r66.2)))) else (if r1 &&& (31 : Int32) = 10 then (Option.bind (mS X (v3 + (1 : Int32))) fun r68 => Option.bind (kO w v1 10) fun q70 => Option.bind (f_X10_wind q70 r68 w) fun r69 => Option.bind (mS X (v3 + (1 : Int32))) fun r71 => Option.bind (kO r69.2 v2 11) fun q73 => Option.bind (f_X11_wind q73 r71 r69.2) fun r72 => if r69.1 = r72.1 then (f_L_law_J811 X (f_L_law_L18 X v1 v2 n) (some q70) (some q73) v3 r72.2) else (some (.inl ((0 : Int32), r72.2)))) else (if r1 &&& (31 : Int32) = 11 then (Option.bind (kO w v1 10) fun q75 => Option.bind (f_X10_morning q75  w) fun r74 => Option.bind (kO r74.2 v2 11) fun q77 => Option.bind (f_X11_morning q77  r74.2) fun r76 => if r74.1 = r76.1 then (f_L_law_J811 X (f_L_law_L18 X v1 v2 n) (some q75) (some q77) v3 r76.2) else (some (.inl ((0 : Int32), r76.2)))) else (if r1 &&& (31 : Int32) = 12 then (Option.bind (mS X (v3 + (1 : Int32))) fun r78 => Option.bind (mS X (v3 + (2 : Int32))) fun r79 => Option.bind (kO w v1 10) fun q81 => Option.bind (f_X10_move q81 r78 r79 w) fun r80 => Option.bind (mS X (v3 + (1 : Int32))) fun r82 => Option.bind (mS X (v3 + (2 : Int32))) fun r83 => Option.bind (kO r80.2 v2 11) fun q85 => Option.bind (f_X11_move q85 r82 r83 r80.2) fun r84 => if r80.1 = r84.1 then (f_L_law_J811 X (f_L_law_L18 X v1 v2 n) (some q81) (some q85) v3 r84.2) else (some (.inl ((0 : Int32), r84.2)))) else (if r1 &&& (31 : Int32) = 13 then (Option.bind (mS X (v3 + (1 : Int32))) fun r86 => Option.bind (mS X (v3 + (2 : Int32))) fun r87 => Option.bind (mS X (v3 + (3 : Int32))) fun r88 => Option.bind (kO w v1 10) fun q90 => Option.bind (f_X10_train q90 r86 r87 r88 w) fun r89 => Option.bind (mS X (v3 + (1 : Int32))) fun r91 => Option.bind (mS X (v3 + (2 : Int32))) fun r92 => Option.bind (mS X (v3 + (3 : Int32))) fun r93 => Option.bind (kO r89.2 v2 11) fun q95 => Option.bind (f_X11_train q95 r91 r92 r93 r89.2) fun r94 => if r89.1 = r94.1 then (f_L_law_J811 X (f_L_law_L18 X v1 v2 n) (some q90) (some q95) v3 r94.2) else (some (.inl ((0 : Int32), r94.2)))) else (if r1 &&& (31 : Int32) = 14 then (Option.bind (mS X (v3 + (1 : Int32))) fun r96 => Option.bind (kO w v1 10) fun q98 => Option.bind (f_X10_stir q98 r96 w) fun r97 => Option.bind (mS X (v3 + (1 : Int32))) fun r99 => Option.bind (kO r97.2 v2 11) fun q101 => Option.bind (f_X11_stir q101 r99 r97.2) fun r100 => if r97.1 = r100.1 then (f_L_law_J811 X (f_L_law_L18 X v1 v2 n) (some q98) (some q101) v3 r100.2) else (some (.inl ((0 : Int32), r100.2)))) else (if r1 &&& (31 : Int32) = 15 then (Option.bind (mS X (v3 + (1 : Int32))) fun r102 => Option.bind (kO w v1 10) fun q104 => Option.bind (f_X10_all q104 r102 w) fun r103 => Option.bind (mS X (v3 + (1 : Int32))) fun r105 => Option.bind (kO r103.2 v2 11) fun q107 => Option.bind (f_X11_all q107 r105 r103.2) fun r106 => if r103.1 = r106.1 then (f_L_law_J811 X (f_L_law_L18 X v1 v2 n) (some q104) (some q107) v3 r106.2) else (some (.inl ((0 : Int32), r106.2)))) else (if r1 &&& (31 : Int32) = 16 then (Option.bind (kO w v1 10) fun q109 => Option.bind (f_X10_nights q109  w) fun r108 => Option.bind (kO r108.2 v2 11) fun q111 => Option.bind (f_X11_nights q111  r108.2) fun r110 => if r108.1 = r110.1 then (f_L_law_J811 X (f_L_law_L18 X v1 v2 n) (some q109) (some q111) v3 r110.2) else (some (.inl ((0 : Int32), r110.2)))) else (if r1 &&& (31 : Int32) = 17 then (Option.bind (mS X (v3 + (1 : Int32))) fun r112 => Option.bind (mS X (v3 + (2 : Int32))) fun r113 => Option.bind (mS X (v3 + (3 : Int32))) fun r114 => Option.bind (kO w v1 10) fun q116 => Option.bind (f_X10_odds q116 r112 r113 r114 w) fun r115 => Option.bind (mS X (v3 + (1 : Int32))) fun r117 => Option.bind (mS X (v3 + (2 : Int32))) fun r118 => Option.bind (mS X (v3 + (3 : Int32))) fun r119 => Option.bind (kO w v2 11) fun q121 => Option.bind (f_X11_odds q121 r117 r118 r119 w) fun r120 => if r115 = r120 then (f_L_law_J811 X (f_L_law_L18 X v1 v2 n) (some q116) (some q121) v3 w) else (some (.inl ((0 : Int32), w)))) else (if r1 &&& (31 : Int32) = 18 then (Option.bind (mS X (v3 + (1 : Int32))) fun r122 => Option.bind (kO w v1 10) fun q124 => Option.bind (f_X10_who q124 r122 w) fun r123 => Option.bind (mS X (v3 + (1 : Int32))) fun r125 => Option.bind (kO w v2 11) fun q127 => Option.bind (f_X11_who q127 r125 w) fun r126 => if r123 = r126 then (f_L_law_J811 X (f_L_law_L18 X v1 v2 n) (some q124) (some q127) v3 w) else (some (.inl ((0 : Int32), w)))) else (if r1 &&& (31 : Int32) = 19 then (Option.bind (mS X (v3 + (1 : Int32))) fun r128 => Option.bind (mS X (v3 + (2 : Int32))) fun r129 => Option.bind (mS X (v3 + (3 : Int32))) fun r130 => Option.bind (kO w v1 10) fun q132 => Option.bind (f_X10_see q132 r128 r129 r130 w) fun r131 => Option.bind (mS X (v3 + (1 : Int32))) fun r133 => Option.bind (mS X (v3 + (2 : Int32))) fun r134 => Option.bind (mS X (v3 + (3 : Int32))) fun r135 => Option.bind (kO r131.2 v2 11) fun q137 => Option.bind (f_X11_see q137 r133 r134 r135 r131.2) fun r136 => if r131.1 = r136.1 then (f_L_law_J811 X (f_L_law_L18 X v1 v2 n) (some q132) (some q137) v3 r136.2) else (some (.inl ((0 : Int32), r136.2)))) else (if r1 &&& (31 : Int32) = 20 then (Option.bind (kO w v1 10) fun q139 => Option.bind (f_X10_forget q139  w) fun r138 => Option.bind (kO r138.2 v2 11) fun q141 => Option.bind (f_X11_forget q141  r138.2) fun r140 => if r138.1 = r140.1 then (f_L_law_J811 X (f_L_law_L18 X v1 v2 n) (some q139) (some q141) v3 r140.2) else (some (.inl ((0 : Int32), r140.2)))) else (if r1 &&& (31 : Int32) = 21 then (Option.bind (mS X (v3 + (1 : Int32))) fun r142 => Option.bind (mS X (v3 + (2 : Int32))) fun r143 => Option.bind (mS X (v3 + (3 : Int32))) fun r144 => Option.bind (kO w v1 10) fun q146 => Option.bind (f_X10_seasons q146 r142 r143 r144 w) fun r145 => Option.bind (mS X (v3 + (1 : Int32))) fun r147 => Option.bind (mS X (v3 + (2 : Int32))) fun r148 => Option.bind (mS X (v3 + (3 : Int32))) fun r149 => Option.bind (kO w v2 11) fun q151 => Option.bind (f_X11_seasons q151 r147 r148 r149 w) fun r150 => if r145 = r150.1 then (f_L_law_J811 X (f_L_law_L18 X v1 v2 n) (some q146) (some q151) v3 r150.2) else (some (.inl ((0 : Int32), r150.2)))) else (if r1 &&& (31 : Int32) = 22 then (Option.bind (kO w v1 10) fun q153 => Option.bind (f_X10_image q153  w) fun r152 => Option.bind (kO r152.2 v2 11) fun q155 => Option.bind (f_X11_image q155  r152.2) fun r154 => if r152.1 = r154.1 then (f_L_law_J811 X (f_L_law_L18 X v1 v2 n) (some q153) (some q155) v3 r154.2) else (some (.inl ((0 : Int32), r154.2)))) else (if r1 &&& (31 : Int32) = 23 then (Option.bind (kO w v1 10) fun q157 => Option.bind (f_X10_restore q157  w) fun r156 => Option.bind (kO r156.2 v2 11) fun q159 => Option.bind (f_X11_restore q159  r156.2) fun r158 => if r156.1 = r158.1 then (f_L_law_J811 X (f_L_law_L18 X v1 v2 n) (some q157) (some q159) v3 r158.2) else (some (.inl ((0 : Int32), r158.2)))) else (if r1 &&& (31 : Int32) = 24 then (Option.bind (mS X (v3 + (1 : Int32))) fun r160 => Option.bind (kO w v1 10) fun q162 => Option.bind (f_X10_count q162 r160 w) fun r161 => Option.bind (mS X (v3 + (1 : Int32))) fun r163 => Option.bind (kO w v2 11) fun q165 => Option.bind (f_X11_count q165 r163 w) fun r164 => if r161 = r164 then (f_L_law_J811 X (f_L_law_L18 X v1 v2 n) (some q162) (some q165) v3 w) else (some (.inl ((0 : Int32), w)))) else (if r1 &&& (31 : Int32) = 25 then (Option.bind (kO w v1 10) fun q167 => Option.bind (f_X10_digest q167  w) fun r166 => Option.bind (kO r166.2 v2 11) fun q169 => Option.bind (f_X11_digest q169  r166.2) fun r168 => if lg_cmp r166.1 r168.1 = 0 then (f_L_law_J811 X (f_L_law_L18 X v1 v2 n) (some q167) (some q169) v3 r168.2) else (some (.inl ((0 : Int32), r168.2)))) else (f_L_law_J811 X (f_L_law_L18 X v1 v2 n) v1 v2 v3 w)))))))))))))))))))))))))))
set_option maxRecDepth 100000 in
set_option maxHeartbeats 4000000 in
theorem e_L_law_L18 {X : mXs} {r : Option mV} {w' : mW} (P : ((Int32 × mW) ⊕ (mW)) → Prop) (v1 : Option Nat) (v2 : Option Nat) (hret : ∀ y, P (.inl y) → r = (some (vi y.1)) ∧ w' = y.2) (hexit : ∀ y, P (.inr y) → mEv X M_L_law 9 r w' 817 [none, none, none, none] [] y) : ∀ (n : Nat) (v3 : Int32) (w : mW) (e : (Int32 × mW) ⊕ (mW)), f_L_law_L18 X v1 v2 n v3 w = some e → P e → mEv X M_L_law 9 r w' 18 [some (vx 0), some (vr v1), some (vr v2), some (vi v3)] [] w := by
  intro n
  induction n with
  | zero =>
    intro v3 w e h hP
    rw [f_L_law_L18] at h
    cases h
  | succ n hk =>
    intro v3 w e h hP
    rw [f_L_law_L18] at h
    refine ev_iload_n (q := 19) dL_law_18 rfl rfl ?_
    refine ev_aload_n (q := 20) dL_law_19 rfl rfl ?_
    refine ev_slen (q := 21) dL_law_20 rfl ?_
    refine ev_iconst (q := 22) (v := (4 : Int32)) dL_law_21 rfl (by decide) ?_
    refine ev_isub (q := 23) dL_law_22 rfl ?_
    by_cases hc : (Int32.ofNat X.1) - (4 : Int32) < v3
    · rw [if_pos hc] at h
      refine ev_icmp_gt_t (q := 817) dL_law_23 (by decide) hc ?_
      cases h
      exact ev_weak _ (mLe_none (mLe_none (mLe_none (mLe_none mLe_nil)))) (hexit _ hP)
    · rw [if_neg hc] at h
      refine ev_icmp_gt_f (q := 26) (t0 := 817) dL_law_23 (by decide) rfl hc ?_
      refine ev_aload_n (q := 27) dL_law_26 rfl rfl ?_
      refine ev_iload_n (q := 28) dL_law_27 rfl rfl ?_
      replace h := Option.bind_eq_some_iff.mp h; obtain ⟨r1, hr1, h⟩ := h
      refine ev_mS dL_law_28 hr1 rfl ?_
      refine ev_bipush (q := 31) (v := (31 : Int32)) dL_law_29 rfl (by decide) ?_
      refine ev_iand (q := 32) dL_law_31 rfl ?_
      by_cases hc0 : r1 &&& (31 : Int32) = 0
      · rw [if_pos hc0] at h
        refine ev_table_in (q := 152) (off := 120) dL_law_32 (by rw [hc0]; decide) (by rw [hc0]; decide) (by rw [hc0]; rfl) (by decide) ?_
        refine ev_aload_n (q := 153) dL_law_152 rfl rfl ?_
        refine ev_aload_n (q := 154) dL_law_153 rfl rfl ?_
        refine ev_iload_n (q := 155) dL_law_154 rfl rfl ?_
        refine ev_iconst (q := 156) (v := (1 : Int32)) dL_law_155 rfl (by decide) ?_
        refine ev_iadd (q := 157) dL_law_156 rfl ?_
        replace h := Option.bind_eq_some_iff.mp h; obtain ⟨r2, hr2, h⟩ := h
        refine ev_mS dL_law_157 hr2 rfl ?_
        replace h := Option.bind_eq_some_iff.mp h; obtain ⟨q4, hq4, h⟩ := h
        obtain ⟨hxq4, fsq4, hkq4⟩ := kO_spec hq4
        subst hxq4
        replace h := Option.bind_eq_some_iff.mp h; obtain ⟨r3, hr3, h⟩ := h
        refine ev_invV (M1 := M_X10_letter) (as := [vi r2]) (fs := fsq4) (ci := 10) dL_law_158 rfl tw_284 cal_X10_letter tw_285 tw_286 (by decide) rfl rfl (Nat.le_of_ble_eq_true rfl) hkq4 rfl (met_X10_letter q4 r2 w _ hr3) ?_
        refine ev_aload_n (q := 162) dL_law_161 rfl rfl ?_
        refine ev_aload_n (q := 163) dL_law_162 rfl rfl ?_
        refine ev_iload_n (q := 164) dL_law_163 rfl rfl ?_
        refine ev_iconst (q := 165) (v := (1 : Int32)) dL_law_164 rfl (by decide) ?_
        refine ev_iadd (q := 166) dL_law_165 rfl ?_
        replace h := Option.bind_eq_some_iff.mp h; obtain ⟨r5, hr5, h⟩ := h
        refine ev_mS dL_law_166 hr5 rfl ?_
        replace h := Option.bind_eq_some_iff.mp h; obtain ⟨q7, hq7, h⟩ := h
        obtain ⟨hxq7, fsq7, hkq7⟩ := kO_spec hq7
        subst hxq7
        replace h := Option.bind_eq_some_iff.mp h; obtain ⟨r6, hr6, h⟩ := h
        refine ev_invV (M1 := M_X11_letter) (as := [vi r5]) (fs := fsq7) (ci := 11) dL_law_167 rfl tw_949 cal_X11_letter tw_950 tw_951 (by decide) rfl rfl (Nat.le_of_ble_eq_true rfl) hkq7 rfl (met_X11_letter q7 r5 r3.2 _ hr6) ?_
        by_cases hc : r3.1 = r6.1
        · rw [if_pos hc] at h
          refine ev_icmp_eq_t (q := 811) dL_law_170 (by decide) hc ?_
          exact ev_weak _ (mLe_some (mLe_some (mLe_some (mLe_some mLe_nil)))) (e_L_law_J811 P (some q4) (some q7) v3 r6.2 _ hk  _ h hP)
        · rw [if_neg hc] at h
          refine ev_icmp_eq_f (q := 173) (t0 := 811) dL_law_170 (by decide) rfl hc ?_
          refine ev_iconst (q := 174) (v := (0 : Int32)) dL_law_173 rfl (by decide) ?_
          cases h
          obtain ⟨hr1, hr2⟩ := hret _ hP
          subst hr1
          subst hr2
          exact ev_zret dL_law_174 rfl (Or.inl rfl)
      · rw [if_neg hc0] at h
        by_cases hc1 : r1 &&& (31 : Int32) = 1
        · rw [if_pos hc1] at h
          refine ev_table_in (q := 175) (off := 143) dL_law_32 (by rw [hc1]; decide) (by rw [hc1]; decide) (by rw [hc1]; rfl) (by decide) ?_
          refine ev_aload_n (q := 176) dL_law_175 rfl rfl ?_
          replace h := Option.bind_eq_some_iff.mp h; obtain ⟨q9, hq9, h⟩ := h
          obtain ⟨hxq9, fsq9, hkq9⟩ := kO_spec hq9
          subst hxq9
          replace h := Option.bind_eq_some_iff.mp h; obtain ⟨r8, hr8, h⟩ := h
          refine ev_invV (M1 := M_X10_blank) (as := []) (fs := fsq9) (ci := 10) dL_law_176 rfl tw_295 cal_X10_blank tw_296 tw_297 (by decide) rfl rfl (Nat.le_of_ble_eq_true rfl) hkq9 rfl (met_X10_blank q9  w _ hr8) ?_
          refine ev_aload_n (q := 180) dL_law_179 rfl rfl ?_
          replace h := Option.bind_eq_some_iff.mp h; obtain ⟨q11, hq11, h⟩ := h
          obtain ⟨hxq11, fsq11, hkq11⟩ := kO_spec hq11
          subst hxq11
          replace h := Option.bind_eq_some_iff.mp h; obtain ⟨r10, hr10, h⟩ := h
          refine ev_invV (M1 := M_X11_blank) (as := []) (fs := fsq11) (ci := 11) dL_law_180 rfl tw_957 cal_X11_blank tw_958 tw_959 (by decide) rfl rfl (Nat.le_of_ble_eq_true rfl) hkq11 rfl (met_X11_blank q11  r8.2 _ hr10) ?_
          by_cases hc : r8.1 = r10.1
          · rw [if_pos hc] at h
            refine ev_icmp_eq_t (q := 811) dL_law_183 (by decide) hc ?_
            exact ev_weak _ (mLe_some (mLe_some (mLe_some (mLe_some mLe_nil)))) (e_L_law_J811 P (some q9) (some q11) v3 r10.2 _ hk  _ h hP)
          · rw [if_neg hc] at h
            refine ev_icmp_eq_f (q := 186) (t0 := 811) dL_law_183 (by decide) rfl hc ?_
            refine ev_iconst (q := 187) (v := (0 : Int32)) dL_law_186 rfl (by decide) ?_
            cases h
            obtain ⟨hr1, hr2⟩ := hret _ hP
            subst hr1
            subst hr2
            exact ev_zret dL_law_187 rfl (Or.inl rfl)
        · rw [if_neg hc1] at h
          by_cases hc2 : r1 &&& (31 : Int32) = 2
          · rw [if_pos hc2] at h
            refine ev_table_in (q := 188) (off := 156) dL_law_32 (by rw [hc2]; decide) (by rw [hc2]; decide) (by rw [hc2]; rfl) (by decide) ?_
            refine ev_aload_n (q := 189) dL_law_188 rfl rfl ?_
            replace h := Option.bind_eq_some_iff.mp h; obtain ⟨q13, hq13, h⟩ := h
            obtain ⟨hxq13, fsq13, hkq13⟩ := kO_spec hq13
            subst hxq13
            replace h := Option.bind_eq_some_iff.mp h; obtain ⟨r12, hr12, h⟩ := h
            refine ev_invV (M1 := M_X10_fault) (as := []) (fs := fsq13) (ci := 10) dL_law_189 rfl tw_299 cal_X10_fault tw_300 tw_301 (by decide) rfl rfl (Nat.le_of_ble_eq_true rfl) hkq13 rfl (met_X10_fault q13  w _ hr12) ?_
            refine ev_aload_n (q := 193) dL_law_192 rfl rfl ?_
            replace h := Option.bind_eq_some_iff.mp h; obtain ⟨q15, hq15, h⟩ := h
            obtain ⟨hxq15, fsq15, hkq15⟩ := kO_spec hq15
            subst hxq15
            replace h := Option.bind_eq_some_iff.mp h; obtain ⟨r14, hr14, h⟩ := h
            refine ev_invV (M1 := M_X11_fault) (as := []) (fs := fsq15) (ci := 11) dL_law_193 rfl tw_961 cal_X11_fault tw_962 tw_963 (by decide) rfl rfl (Nat.le_of_ble_eq_true rfl) hkq15 rfl (met_X11_fault q15  r12.2 _ hr14) ?_
            by_cases hc : r12.1 = r14.1
            · rw [if_pos hc] at h
              refine ev_icmp_eq_t (q := 811) dL_law_196 (by decide) hc ?_
              exact ev_weak _ (mLe_some (mLe_some (mLe_some (mLe_some mLe_nil)))) (e_L_law_J811 P (some q13) (some q15) v3 r14.2 _ hk  _ h hP)
            · rw [if_neg hc] at h
              refine ev_icmp_eq_f (q := 199) (t0 := 811) dL_law_196 (by decide) rfl hc ?_
              refine ev_iconst (q := 200) (v := (0 : Int32)) dL_law_199 rfl (by decide) ?_
              cases h
              obtain ⟨hr1, hr2⟩ := hret _ hP
              subst hr1
              subst hr2
              exact ev_zret dL_law_200 rfl (Or.inl rfl)
          · rw [if_neg hc2] at h
            by_cases hc3 : r1 &&& (31 : Int32) = 3
            · rw [if_pos hc3] at h
              refine ev_table_in (q := 201) (off := 169) dL_law_32 (by rw [hc3]; decide) (by rw [hc3]; decide) (by rw [hc3]; rfl) (by decide) ?_
              refine ev_aload_n (q := 202) dL_law_201 rfl rfl ?_
              replace h := Option.bind_eq_some_iff.mp h; obtain ⟨q17, hq17, h⟩ := h
              obtain ⟨hxq17, fsq17, hkq17⟩ := kO_spec hq17
              subst hxq17
              replace h := Option.bind_eq_some_iff.mp h; obtain ⟨r16, hr16, h⟩ := h
              refine ev_invV (M1 := M_X10_port) (as := []) (fs := fsq17) (ci := 10) dL_law_202 rfl tw_437 cal_X10_port tw_438 tw_439 (by decide) rfl rfl (Nat.le_of_ble_eq_true rfl) hkq17 rfl (met_X10_port q17  w _ hr16) ?_
              refine ev_aload_n (q := 206) dL_law_205 rfl rfl ?_
              replace h := Option.bind_eq_some_iff.mp h; obtain ⟨q19, hq19, h⟩ := h
              obtain ⟨hxq19, fsq19, hkq19⟩ := kO_spec hq19
              subst hxq19
              replace h := Option.bind_eq_some_iff.mp h; obtain ⟨r18, hr18, h⟩ := h
              refine ev_invV (M1 := M_X11_port) (as := []) (fs := fsq19) (ci := 11) dL_law_206 rfl tw_991 cal_X11_port tw_992 tw_993 (by decide) rfl rfl (Nat.le_of_ble_eq_true rfl) hkq19 rfl (met_X11_port q19  r16.2 _ hr18) ?_
              by_cases hc : r16.1 = r18.1
              · rw [if_pos hc] at h
                refine ev_icmp_eq_t (q := 811) dL_law_209 (by decide) hc ?_
                exact ev_weak _ (mLe_some (mLe_some (mLe_some (mLe_some mLe_nil)))) (e_L_law_J811 P (some q17) (some q19) v3 r18.2 _ hk  _ h hP)
              · rw [if_neg hc] at h
                refine ev_icmp_eq_f (q := 212) (t0 := 811) dL_law_209 (by decide) rfl hc ?_
                refine ev_iconst (q := 213) (v := (0 : Int32)) dL_law_212 rfl (by decide) ?_
                cases h
                obtain ⟨hr1, hr2⟩ := hret _ hP
                subst hr1
                subst hr2
                exact ev_zret dL_law_213 rfl (Or.inl rfl)
            · rw [if_neg hc3] at h
              by_cases hc4 : r1 &&& (31 : Int32) = 4
              · rw [if_pos hc4] at h
                refine ev_table_in (q := 214) (off := 182) dL_law_32 (by rw [hc4]; decide) (by rw [hc4]; decide) (by rw [hc4]; rfl) (by decide) ?_
                refine ev_aload_n (q := 215) dL_law_214 rfl rfl ?_
                refine ev_aload_n (q := 216) dL_law_215 rfl rfl ?_
                refine ev_iload_n (q := 217) dL_law_216 rfl rfl ?_
                refine ev_iconst (q := 218) (v := (1 : Int32)) dL_law_217 rfl (by decide) ?_
                refine ev_iadd (q := 219) dL_law_218 rfl ?_
                replace h := Option.bind_eq_some_iff.mp h; obtain ⟨r20, hr20, h⟩ := h
                refine ev_mS dL_law_219 hr20 rfl ?_
                refine ev_aload_n (q := 221) dL_law_220 rfl rfl ?_
                refine ev_iload_n (q := 222) dL_law_221 rfl rfl ?_
                refine ev_iconst (q := 223) (v := (2 : Int32)) dL_law_222 rfl (by decide) ?_
                refine ev_iadd (q := 224) dL_law_223 rfl ?_
                replace h := Option.bind_eq_some_iff.mp h; obtain ⟨r21, hr21, h⟩ := h
                refine ev_mS dL_law_224 hr21 rfl ?_
                replace h := Option.bind_eq_some_iff.mp h; obtain ⟨q23, hq23, h⟩ := h
                obtain ⟨hxq23, fsq23, hkq23⟩ := kO_spec hq23
                subst hxq23
                replace h := Option.bind_eq_some_iff.mp h; obtain ⟨r22, hr22, h⟩ := h
                refine ev_invV (M1 := M_X10_sleeper) (as := [vi r20, vi r21]) (fs := fsq23) (ci := 10) dL_law_225 rfl tw_498 cal_X10_sleeper tw_499 tw_500 (by decide) rfl rfl (Nat.le_of_ble_eq_true rfl) hkq23 rfl (met_X10_sleeper q23 r20 r21 w _ hr22) ?_
                refine ev_aload_n (q := 229) dL_law_228 rfl rfl ?_
                refine ev_aload_n (q := 230) dL_law_229 rfl rfl ?_
                refine ev_iload_n (q := 231) dL_law_230 rfl rfl ?_
                refine ev_iconst (q := 232) (v := (1 : Int32)) dL_law_231 rfl (by decide) ?_
                refine ev_iadd (q := 233) dL_law_232 rfl ?_
                replace h := Option.bind_eq_some_iff.mp h; obtain ⟨r24, hr24, h⟩ := h
                refine ev_mS dL_law_233 hr24 rfl ?_
                refine ev_aload_n (q := 235) dL_law_234 rfl rfl ?_
                refine ev_iload_n (q := 236) dL_law_235 rfl rfl ?_
                refine ev_iconst (q := 237) (v := (2 : Int32)) dL_law_236 rfl (by decide) ?_
                refine ev_iadd (q := 238) dL_law_237 rfl ?_
                replace h := Option.bind_eq_some_iff.mp h; obtain ⟨r25, hr25, h⟩ := h
                refine ev_mS dL_law_238 hr25 rfl ?_
                replace h := Option.bind_eq_some_iff.mp h; obtain ⟨q27, hq27, h⟩ := h
                obtain ⟨hxq27, fsq27, hkq27⟩ := kO_spec hq27
                subst hxq27
                replace h := Option.bind_eq_some_iff.mp h; obtain ⟨r26, hr26, h⟩ := h
                refine ev_invV (M1 := M_X11_sleeper) (as := [vi r24, vi r25]) (fs := fsq27) (ci := 11) dL_law_239 rfl tw_1033 cal_X11_sleeper tw_1034 tw_1035 (by decide) rfl rfl (Nat.le_of_ble_eq_true rfl) hkq27 rfl (met_X11_sleeper q27 r24 r25 r22.2 _ hr26) ?_
                by_cases hc : r22.1 = r26
                · rw [if_pos hc] at h
                  refine ev_icmp_eq_t (q := 811) dL_law_242 (by decide) hc ?_
                  exact ev_weak _ (mLe_some (mLe_some (mLe_some (mLe_some mLe_nil)))) (e_L_law_J811 P (some q23) (some q27) v3 r22.2 _ hk  _ h hP)
                · rw [if_neg hc] at h
                  refine ev_icmp_eq_f (q := 245) (t0 := 811) dL_law_242 (by decide) rfl hc ?_
                  refine ev_iconst (q := 246) (v := (0 : Int32)) dL_law_245 rfl (by decide) ?_
                  cases h
                  obtain ⟨hr1, hr2⟩ := hret _ hP
                  subst hr1
                  subst hr2
                  exact ev_zret dL_law_246 rfl (Or.inl rfl)
              · rw [if_neg hc4] at h
                by_cases hc5 : r1 &&& (31 : Int32) = 5
                · rw [if_pos hc5] at h
                  refine ev_table_in (q := 247) (off := 215) dL_law_32 (by rw [hc5]; decide) (by rw [hc5]; decide) (by rw [hc5]; rfl) (by decide) ?_
                  refine ev_aload_n (q := 248) dL_law_247 rfl rfl ?_
                  refine ev_aload_n (q := 249) dL_law_248 rfl rfl ?_
                  refine ev_iload_n (q := 250) dL_law_249 rfl rfl ?_
                  refine ev_iconst (q := 251) (v := (1 : Int32)) dL_law_250 rfl (by decide) ?_
                  refine ev_iadd (q := 252) dL_law_251 rfl ?_
                  replace h := Option.bind_eq_some_iff.mp h; obtain ⟨r28, hr28, h⟩ := h
                  refine ev_mS dL_law_252 hr28 rfl ?_
                  refine ev_aload_n (q := 254) dL_law_253 rfl rfl ?_
                  refine ev_iload_n (q := 255) dL_law_254 rfl rfl ?_
                  refine ev_iconst (q := 256) (v := (2 : Int32)) dL_law_255 rfl (by decide) ?_
                  refine ev_iadd (q := 257) dL_law_256 rfl ?_
                  replace h := Option.bind_eq_some_iff.mp h; obtain ⟨r29, hr29, h⟩ := h
                  refine ev_mS dL_law_257 hr29 rfl ?_
                  replace h := Option.bind_eq_some_iff.mp h; obtain ⟨q31, hq31, h⟩ := h
                  obtain ⟨hxq31, fsq31, hkq31⟩ := kO_spec hq31
                  subst hxq31
                  replace h := Option.bind_eq_some_iff.mp h; obtain ⟨r30, hr30, h⟩ := h
                  refine ev_invV (M1 := M_X10_tosser) (as := [vi r28, vi r29]) (fs := fsq31) (ci := 10) dL_law_258 rfl tw_556 cal_X10_tosser tw_557 tw_558 (by decide) rfl rfl (Nat.le_of_ble_eq_true rfl) hkq31 rfl (met_X10_tosser q31 r28 r29 w _ hr30) ?_
                  refine ev_aload_n (q := 262) dL_law_261 rfl rfl ?_
                  refine ev_aload_n (q := 263) dL_law_262 rfl rfl ?_
                  refine ev_iload_n (q := 264) dL_law_263 rfl rfl ?_
                  refine ev_iconst (q := 265) (v := (1 : Int32)) dL_law_264 rfl (by decide) ?_
                  refine ev_iadd (q := 266) dL_law_265 rfl ?_
                  replace h := Option.bind_eq_some_iff.mp h; obtain ⟨r32, hr32, h⟩ := h
                  refine ev_mS dL_law_266 hr32 rfl ?_
                  refine ev_aload_n (q := 268) dL_law_267 rfl rfl ?_
                  refine ev_iload_n (q := 269) dL_law_268 rfl rfl ?_
                  refine ev_iconst (q := 270) (v := (2 : Int32)) dL_law_269 rfl (by decide) ?_
                  refine ev_iadd (q := 271) dL_law_270 rfl ?_
                  replace h := Option.bind_eq_some_iff.mp h; obtain ⟨r33, hr33, h⟩ := h
                  refine ev_mS dL_law_271 hr33 rfl ?_
                  replace h := Option.bind_eq_some_iff.mp h; obtain ⟨q35, hq35, h⟩ := h
                  obtain ⟨hxq35, fsq35, hkq35⟩ := kO_spec hq35
                  subst hxq35
                  replace h := Option.bind_eq_some_iff.mp h; obtain ⟨r34, hr34, h⟩ := h
                  refine ev_invV (M1 := M_X11_tosser) (as := [vi r32, vi r33]) (fs := fsq35) (ci := 11) dL_law_272 rfl tw_1057 cal_X11_tosser tw_1058 tw_1059 (by decide) rfl rfl (Nat.le_of_ble_eq_true rfl) hkq35 rfl (met_X11_tosser q35 r32 r33 w _ hr34) ?_
                  by_cases hc : r30 = r34
                  · rw [if_pos hc] at h
                    refine ev_icmp_eq_t (q := 811) dL_law_275 (by decide) hc ?_
                    exact ev_weak _ (mLe_some (mLe_some (mLe_some (mLe_some mLe_nil)))) (e_L_law_J811 P (some q31) (some q35) v3 w _ hk  _ h hP)
                  · rw [if_neg hc] at h
                    refine ev_icmp_eq_f (q := 278) (t0 := 811) dL_law_275 (by decide) rfl hc ?_
                    refine ev_iconst (q := 279) (v := (0 : Int32)) dL_law_278 rfl (by decide) ?_
                    cases h
                    obtain ⟨hr1, hr2⟩ := hret _ hP
                    subst hr1
                    subst hr2
                    exact ev_zret dL_law_279 rfl (Or.inl rfl)
                · rw [if_neg hc5] at h
                  by_cases hc6 : r1 &&& (31 : Int32) = 6
                  · rw [if_pos hc6] at h
                    refine ev_table_in (q := 280) (off := 248) dL_law_32 (by rw [hc6]; decide) (by rw [hc6]; decide) (by rw [hc6]; rfl) (by decide) ?_
                    refine ev_aload_n (q := 281) dL_law_280 rfl rfl ?_
                    refine ev_aload_n (q := 282) dL_law_281 rfl rfl ?_
                    refine ev_iload_n (q := 283) dL_law_282 rfl rfl ?_
                    refine ev_iconst (q := 284) (v := (1 : Int32)) dL_law_283 rfl (by decide) ?_
                    refine ev_iadd (q := 285) dL_law_284 rfl ?_
                    replace h := Option.bind_eq_some_iff.mp h; obtain ⟨r36, hr36, h⟩ := h
                    refine ev_mS dL_law_285 hr36 rfl ?_
                    refine ev_aload_n (q := 287) dL_law_286 rfl rfl ?_
                    refine ev_iload_n (q := 288) dL_law_287 rfl rfl ?_
                    refine ev_iconst (q := 289) (v := (2 : Int32)) dL_law_288 rfl (by decide) ?_
                    refine ev_iadd (q := 290) dL_law_289 rfl ?_
                    replace h := Option.bind_eq_some_iff.mp h; obtain ⟨r37, hr37, h⟩ := h
                    refine ev_mS dL_law_290 hr37 rfl ?_
                    replace h := Option.bind_eq_some_iff.mp h; obtain ⟨q39, hq39, h⟩ := h
                    obtain ⟨hxq39, fsq39, hkq39⟩ := kO_spec hq39
                    subst hxq39
                    replace h := Option.bind_eq_some_iff.mp h; obtain ⟨r38, hr38, h⟩ := h
                    refine ev_invV (M1 := M_X10_as) (as := [vi r36, vi r37]) (fs := fsq39) (ci := 10) dL_law_291 rfl tw_635 cal_X10_as tw_636 tw_637 (by decide) rfl rfl (Nat.le_of_ble_eq_true rfl) hkq39 rfl (met_X10_as q39 r36 r37 w _ hr38) ?_
                    refine ev_aload_n (q := 295) dL_law_294 rfl rfl ?_
                    refine ev_aload_n (q := 296) dL_law_295 rfl rfl ?_
                    refine ev_iload_n (q := 297) dL_law_296 rfl rfl ?_
                    refine ev_iconst (q := 298) (v := (1 : Int32)) dL_law_297 rfl (by decide) ?_
                    refine ev_iadd (q := 299) dL_law_298 rfl ?_
                    replace h := Option.bind_eq_some_iff.mp h; obtain ⟨r40, hr40, h⟩ := h
                    refine ev_mS dL_law_299 hr40 rfl ?_
                    refine ev_aload_n (q := 301) dL_law_300 rfl rfl ?_
                    refine ev_iload_n (q := 302) dL_law_301 rfl rfl ?_
                    refine ev_iconst (q := 303) (v := (2 : Int32)) dL_law_302 rfl (by decide) ?_
                    refine ev_iadd (q := 304) dL_law_303 rfl ?_
                    replace h := Option.bind_eq_some_iff.mp h; obtain ⟨r41, hr41, h⟩ := h
                    refine ev_mS dL_law_304 hr41 rfl ?_
                    replace h := Option.bind_eq_some_iff.mp h; obtain ⟨q43, hq43, h⟩ := h
                    obtain ⟨hxq43, fsq43, hkq43⟩ := kO_spec hq43
                    subst hxq43
                    replace h := Option.bind_eq_some_iff.mp h; obtain ⟨r42, hr42, h⟩ := h
                    refine ev_invV (M1 := M_X11_as) (as := [vi r40, vi r41]) (fs := fsq43) (ci := 11) dL_law_305 rfl tw_1090 cal_X11_as tw_1091 tw_1092 (by decide) rfl rfl (Nat.le_of_ble_eq_true rfl) hkq43 rfl (met_X11_as q43 r40 r41 w _ hr42) ?_
                    by_cases hc : r38 = r42
                    · rw [if_pos hc] at h
                      refine ev_icmp_eq_t (q := 811) dL_law_308 (by decide) hc ?_
                      exact ev_weak _ (mLe_some (mLe_some (mLe_some (mLe_some mLe_nil)))) (e_L_law_J811 P (some q39) (some q43) v3 w _ hk  _ h hP)
                    · rw [if_neg hc] at h
                      refine ev_icmp_eq_f (q := 311) (t0 := 811) dL_law_308 (by decide) rfl hc ?_
                      refine ev_iconst (q := 312) (v := (0 : Int32)) dL_law_311 rfl (by decide) ?_
                      cases h
                      obtain ⟨hr1, hr2⟩ := hret _ hP
                      subst hr1
                      subst hr2
                      exact ev_zret dL_law_312 rfl (Or.inl rfl)
                  · rw [if_neg hc6] at h
                    by_cases hc7 : r1 &&& (31 : Int32) = 7
                    · rw [if_pos hc7] at h
                      refine ev_table_in (q := 313) (off := 281) dL_law_32 (by rw [hc7]; decide) (by rw [hc7]; decide) (by rw [hc7]; rfl) (by decide) ?_
                      refine ev_aload_n (q := 314) dL_law_313 rfl rfl ?_
                      refine ev_aload_n (q := 315) dL_law_314 rfl rfl ?_
                      refine ev_iload_n (q := 316) dL_law_315 rfl rfl ?_
                      refine ev_iconst (q := 317) (v := (1 : Int32)) dL_law_316 rfl (by decide) ?_
                      refine ev_iadd (q := 318) dL_law_317 rfl ?_
                      replace h := Option.bind_eq_some_iff.mp h; obtain ⟨r44, hr44, h⟩ := h
                      refine ev_mS dL_law_318 hr44 rfl ?_
                      refine ev_aload_n (q := 320) dL_law_319 rfl rfl ?_
                      refine ev_iload_n (q := 321) dL_law_320 rfl rfl ?_
                      refine ev_iconst (q := 322) (v := (2 : Int32)) dL_law_321 rfl (by decide) ?_
                      refine ev_iadd (q := 323) dL_law_322 rfl ?_
                      replace h := Option.bind_eq_some_iff.mp h; obtain ⟨r45, hr45, h⟩ := h
                      refine ev_mS dL_law_323 hr45 rfl ?_
                      replace h := Option.bind_eq_some_iff.mp h; obtain ⟨q47, hq47, h⟩ := h
                      obtain ⟨hxq47, fsq47, hkq47⟩ := kO_spec hq47
                      subst hxq47
                      replace h := Option.bind_eq_some_iff.mp h; obtain ⟨r46, hr46, h⟩ := h
                      refine ev_invV (M1 := M_X10_lands) (as := [vi r44, vi r45]) (fs := fsq47) (ci := 10) dL_law_324 rfl tw_642 cal_X10_lands tw_643 tw_644 (by decide) rfl rfl (Nat.le_of_ble_eq_true rfl) hkq47 rfl (met_X10_lands q47 r44 r45 w _ hr46) ?_
                      refine ev_aload_n (q := 328) dL_law_327 rfl rfl ?_
                      refine ev_aload_n (q := 329) dL_law_328 rfl rfl ?_
                      refine ev_iload_n (q := 330) dL_law_329 rfl rfl ?_
                      refine ev_iconst (q := 331) (v := (1 : Int32)) dL_law_330 rfl (by decide) ?_
                      refine ev_iadd (q := 332) dL_law_331 rfl ?_
                      replace h := Option.bind_eq_some_iff.mp h; obtain ⟨r48, hr48, h⟩ := h
                      refine ev_mS dL_law_332 hr48 rfl ?_
                      refine ev_aload_n (q := 334) dL_law_333 rfl rfl ?_
                      refine ev_iload_n (q := 335) dL_law_334 rfl rfl ?_
                      refine ev_iconst (q := 336) (v := (2 : Int32)) dL_law_335 rfl (by decide) ?_
                      refine ev_iadd (q := 337) dL_law_336 rfl ?_
                      replace h := Option.bind_eq_some_iff.mp h; obtain ⟨r49, hr49, h⟩ := h
                      refine ev_mS dL_law_337 hr49 rfl ?_
                      replace h := Option.bind_eq_some_iff.mp h; obtain ⟨q51, hq51, h⟩ := h
                      obtain ⟨hxq51, fsq51, hkq51⟩ := kO_spec hq51
                      subst hxq51
                      replace h := Option.bind_eq_some_iff.mp h; obtain ⟨r50, hr50, h⟩ := h
                      refine ev_invV (M1 := M_X11_lands) (as := [vi r48, vi r49]) (fs := fsq51) (ci := 11) dL_law_338 rfl tw_995 cal_X11_lands tw_996 tw_997 (by decide) rfl rfl (Nat.le_of_ble_eq_true rfl) hkq51 rfl (met_X11_lands q51 r48 r49 w _ hr50) ?_
                      by_cases hc : r46 = r50
                      · rw [if_pos hc] at h
                        refine ev_icmp_eq_t (q := 811) dL_law_341 (by decide) hc ?_
                        exact ev_weak _ (mLe_some (mLe_some (mLe_some (mLe_some mLe_nil)))) (e_L_law_J811 P (some q47) (some q51) v3 w _ hk  _ h hP)
                      · rw [if_neg hc] at h
                        refine ev_icmp_eq_f (q := 344) (t0 := 811) dL_law_341 (by decide) rfl hc ?_
                        refine ev_iconst (q := 345) (v := (0 : Int32)) dL_law_344 rfl (by decide) ?_
                        cases h
                        obtain ⟨hr1, hr2⟩ := hret _ hP
                        subst hr1
                        subst hr2
                        exact ev_zret dL_law_345 rfl (Or.inl rfl)
                    · rw [if_neg hc7] at h
                      by_cases hc8 : r1 &&& (31 : Int32) = 8
                      · rw [if_pos hc8] at h
                        refine ev_table_in (q := 346) (off := 314) dL_law_32 (by rw [hc8]; decide) (by rw [hc8]; decide) (by rw [hc8]; rfl) (by decide) ?_
                        refine ev_aload_n (q := 347) dL_law_346 rfl rfl ?_
                        refine ev_aload_n (q := 348) dL_law_347 rfl rfl ?_
                        refine ev_iload_n (q := 349) dL_law_348 rfl rfl ?_
                        refine ev_iconst (q := 350) (v := (1 : Int32)) dL_law_349 rfl (by decide) ?_
                        refine ev_iadd (q := 351) dL_law_350 rfl ?_
                        replace h := Option.bind_eq_some_iff.mp h; obtain ⟨r52, hr52, h⟩ := h
                        refine ev_mS dL_law_351 hr52 rfl ?_
                        refine ev_aload_n (q := 353) dL_law_352 rfl rfl ?_
                        refine ev_iload_n (q := 354) dL_law_353 rfl rfl ?_
                        refine ev_iconst (q := 355) (v := (2 : Int32)) dL_law_354 rfl (by decide) ?_
                        refine ev_iadd (q := 356) dL_law_355 rfl ?_
                        replace h := Option.bind_eq_some_iff.mp h; obtain ⟨r53, hr53, h⟩ := h
                        refine ev_mS dL_law_356 hr53 rfl ?_
                        replace h := Option.bind_eq_some_iff.mp h; obtain ⟨q55, hq55, h⟩ := h
                        obtain ⟨hxq55, fsq55, hkq55⟩ := kO_spec hq55
                        subst hxq55
                        replace h := Option.bind_eq_some_iff.mp h; obtain ⟨r54, hr54, h⟩ := h
                        refine ev_invV (M1 := M_X10_covers) (as := [vi r52, vi r53]) (fs := fsq55) (ci := 10) dL_law_357 rfl tw_658 cal_X10_covers tw_659 tw_660 (by decide) rfl rfl (Nat.le_of_ble_eq_true rfl) hkq55 rfl (met_X10_covers q55 r52 r53 w _ hr54) ?_
                        refine ev_aload_n (q := 361) dL_law_360 rfl rfl ?_
                        refine ev_aload_n (q := 362) dL_law_361 rfl rfl ?_
                        refine ev_iload_n (q := 363) dL_law_362 rfl rfl ?_
                        refine ev_iconst (q := 364) (v := (1 : Int32)) dL_law_363 rfl (by decide) ?_
                        refine ev_iadd (q := 365) dL_law_364 rfl ?_
                        replace h := Option.bind_eq_some_iff.mp h; obtain ⟨r56, hr56, h⟩ := h
                        refine ev_mS dL_law_365 hr56 rfl ?_
                        refine ev_aload_n (q := 367) dL_law_366 rfl rfl ?_
                        refine ev_iload_n (q := 368) dL_law_367 rfl rfl ?_
                        refine ev_iconst (q := 369) (v := (2 : Int32)) dL_law_368 rfl (by decide) ?_
                        refine ev_iadd (q := 370) dL_law_369 rfl ?_
                        replace h := Option.bind_eq_some_iff.mp h; obtain ⟨r57, hr57, h⟩ := h
                        refine ev_mS dL_law_370 hr57 rfl ?_
                        replace h := Option.bind_eq_some_iff.mp h; obtain ⟨q59, hq59, h⟩ := h
                        obtain ⟨hxq59, fsq59, hkq59⟩ := kO_spec hq59
                        subst hxq59
                        replace h := Option.bind_eq_some_iff.mp h; obtain ⟨r58, hr58, h⟩ := h
                        refine ev_invV (M1 := M_X11_covers) (as := [vi r56, vi r57]) (fs := fsq59) (ci := 11) dL_law_371 rfl tw_1015 cal_X11_covers tw_1016 tw_1017 (by decide) rfl rfl (Nat.le_of_ble_eq_true rfl) hkq59 rfl (met_X11_covers q59 r56 r57 w _ hr58) ?_
                        by_cases hc : r54 = r58
                        · rw [if_pos hc] at h
                          refine ev_icmp_eq_t (q := 811) dL_law_374 (by decide) hc ?_
                          exact ev_weak _ (mLe_some (mLe_some (mLe_some (mLe_some mLe_nil)))) (e_L_law_J811 P (some q55) (some q59) v3 w _ hk  _ h hP)
                        · rw [if_neg hc] at h
                          refine ev_icmp_eq_f (q := 377) (t0 := 811) dL_law_374 (by decide) rfl hc ?_
                          refine ev_iconst (q := 378) (v := (0 : Int32)) dL_law_377 rfl (by decide) ?_
                          cases h
                          obtain ⟨hr1, hr2⟩ := hret _ hP
                          subst hr1
                          subst hr2
                          exact ev_zret dL_law_378 rfl (Or.inl rfl)
                      · rw [if_neg hc8] at h
                        by_cases hc9 : r1 &&& (31 : Int32) = 9
                        · rw [if_pos hc9] at h
                          refine ev_table_in (q := 379) (off := 347) dL_law_32 (by rw [hc9]; decide) (by rw [hc9]; decide) (by rw [hc9]; rfl) (by decide) ?_
                          refine ev_aload_n (q := 380) dL_law_379 rfl rfl ?_
                          refine ev_aload_n (q := 381) dL_law_380 rfl rfl ?_
                          refine ev_iload_n (q := 382) dL_law_381 rfl rfl ?_
                          refine ev_iconst (q := 383) (v := (1 : Int32)) dL_law_382 rfl (by decide) ?_
                          refine ev_iadd (q := 384) dL_law_383 rfl ?_
                          replace h := Option.bind_eq_some_iff.mp h; obtain ⟨r60, hr60, h⟩ := h
                          refine ev_mS dL_law_384 hr60 rfl ?_
                          refine ev_aload_n (q := 386) dL_law_385 rfl rfl ?_
                          refine ev_iload_n (q := 387) dL_law_386 rfl rfl ?_
                          refine ev_iconst (q := 388) (v := (2 : Int32)) dL_law_387 rfl (by decide) ?_
                          refine ev_iadd (q := 389) dL_law_388 rfl ?_
                          replace h := Option.bind_eq_some_iff.mp h; obtain ⟨r61, hr61, h⟩ := h
                          refine ev_mS dL_law_389 hr61 rfl ?_
                          replace h := Option.bind_eq_some_iff.mp h; obtain ⟨q63, hq63, h⟩ := h
                          obtain ⟨hxq63, fsq63, hkq63⟩ := kO_spec hq63
                          subst hxq63
                          replace h := Option.bind_eq_some_iff.mp h; obtain ⟨r62, hr62, h⟩ := h
                          refine ev_invV (M1 := M_X10_toss) (as := [vi r60, vi r61]) (fs := fsq63) (ci := 10) dL_law_390 rfl tw_662 cal_X10_toss tw_663 tw_664 (by decide) rfl rfl (Nat.le_of_ble_eq_true rfl) hkq63 rfl (met_X10_toss q63 r60 r61 w _ hr62) ?_
                          refine ev_aload_n (q := 394) dL_law_393 rfl rfl ?_
                          refine ev_aload_n (q := 395) dL_law_394 rfl rfl ?_
                          refine ev_iload_n (q := 396) dL_law_395 rfl rfl ?_
                          refine ev_iconst (q := 397) (v := (1 : Int32)) dL_law_396 rfl (by decide) ?_
                          refine ev_iadd (q := 398) dL_law_397 rfl ?_
                          replace h := Option.bind_eq_some_iff.mp h; obtain ⟨r64, hr64, h⟩ := h
                          refine ev_mS dL_law_398 hr64 rfl ?_
                          refine ev_aload_n (q := 400) dL_law_399 rfl rfl ?_
                          refine ev_iload_n (q := 401) dL_law_400 rfl rfl ?_
                          refine ev_iconst (q := 402) (v := (2 : Int32)) dL_law_401 rfl (by decide) ?_
                          refine ev_iadd (q := 403) dL_law_402 rfl ?_
                          replace h := Option.bind_eq_some_iff.mp h; obtain ⟨r65, hr65, h⟩ := h
                          refine ev_mS dL_law_403 hr65 rfl ?_
                          replace h := Option.bind_eq_some_iff.mp h; obtain ⟨q67, hq67, h⟩ := h
                          obtain ⟨hxq67, fsq67, hkq67⟩ := kO_spec hq67
                          subst hxq67
                          replace h := Option.bind_eq_some_iff.mp h; obtain ⟨r66, hr66, h⟩ := h
                          refine ev_invV (M1 := M_X11_toss) (as := [vi r64, vi r65]) (fs := fsq67) (ci := 11) dL_law_404 rfl tw_1095 cal_X11_toss tw_1096 tw_1097 (by decide) rfl rfl (Nat.le_of_ble_eq_true rfl) hkq67 rfl (met_X11_toss q67 r64 r65 r62.2 _ hr66) ?_
                          by_cases hc : r62.1 = r66.1
                          · rw [if_pos hc] at h
                            refine ev_icmp_eq_t (q := 811) dL_law_407 (by decide) hc ?_
                            exact ev_weak _ (mLe_some (mLe_some (mLe_some (mLe_some mLe_nil)))) (e_L_law_J811 P (some q63) (some q67) v3 r66.2 _ hk  _ h hP)
                          · rw [if_neg hc] at h
                            refine ev_icmp_eq_f (q := 410) (t0 := 811) dL_law_407 (by decide) rfl hc ?_
                            refine ev_iconst (q := 411) (v := (0 : Int32)) dL_law_410 rfl (by decide) ?_
                            cases h
                            obtain ⟨hr1, hr2⟩ := hret _ hP
                            subst hr1
                            subst hr2
                            exact ev_zret dL_law_411 rfl (Or.inl rfl)
                        · rw [if_neg hc9] at h
                          by_cases hc10 : r1 &&& (31 : Int32) = 10
                          · rw [if_pos hc10] at h
                            refine ev_table_in (q := 412) (off := 380) dL_law_32 (by rw [hc10]; decide) (by rw [hc10]; decide) (by rw [hc10]; rfl) (by decide) ?_
                            refine ev_aload_n (q := 413) dL_law_412 rfl rfl ?_
                            refine ev_aload_n (q := 414) dL_law_413 rfl rfl ?_
                            refine ev_iload_n (q := 415) dL_law_414 rfl rfl ?_
                            refine ev_iconst (q := 416) (v := (1 : Int32)) dL_law_415 rfl (by decide) ?_
                            refine ev_iadd (q := 417) dL_law_416 rfl ?_
                            replace h := Option.bind_eq_some_iff.mp h; obtain ⟨r68, hr68, h⟩ := h
                            refine ev_mS dL_law_417 hr68 rfl ?_
                            replace h := Option.bind_eq_some_iff.mp h; obtain ⟨q70, hq70, h⟩ := h
                            obtain ⟨hxq70, fsq70, hkq70⟩ := kO_spec hq70
                            subst hxq70
                            replace h := Option.bind_eq_some_iff.mp h; obtain ⟨r69, hr69, h⟩ := h
                            refine ev_invV (M1 := M_X10_wind) (as := [vi r68]) (fs := fsq70) (ci := 10) dL_law_418 rfl tw_666 cal_X10_wind tw_667 tw_668 (by decide) rfl rfl (Nat.le_of_ble_eq_true rfl) hkq70 rfl (met_X10_wind q70 r68 w _ hr69) ?_
                            refine ev_aload_n (q := 422) dL_law_421 rfl rfl ?_
                            refine ev_aload_n (q := 423) dL_law_422 rfl rfl ?_
                            refine ev_iload_n (q := 424) dL_law_423 rfl rfl ?_
                            refine ev_iconst (q := 425) (v := (1 : Int32)) dL_law_424 rfl (by decide) ?_
                            refine ev_iadd (q := 426) dL_law_425 rfl ?_
                            replace h := Option.bind_eq_some_iff.mp h; obtain ⟨r71, hr71, h⟩ := h
                            refine ev_mS dL_law_426 hr71 rfl ?_
                            replace h := Option.bind_eq_some_iff.mp h; obtain ⟨q73, hq73, h⟩ := h
                            obtain ⟨hxq73, fsq73, hkq73⟩ := kO_spec hq73
                            subst hxq73
                            replace h := Option.bind_eq_some_iff.mp h; obtain ⟨r72, hr72, h⟩ := h
                            refine ev_invV (M1 := M_X11_wind) (as := [vi r71]) (fs := fsq73) (ci := 11) dL_law_427 rfl tw_1099 cal_X11_wind tw_1100 tw_1101 (by decide) rfl rfl (Nat.le_of_ble_eq_true rfl) hkq73 rfl (met_X11_wind q73 r71 r69.2 _ hr72) ?_
                            by_cases hc : r69.1 = r72.1
                            · rw [if_pos hc] at h
                              refine ev_icmp_eq_t (q := 811) dL_law_430 (by decide) hc ?_
                              exact ev_weak _ (mLe_some (mLe_some (mLe_some (mLe_some mLe_nil)))) (e_L_law_J811 P (some q70) (some q73) v3 r72.2 _ hk  _ h hP)
                            · rw [if_neg hc] at h
                              refine ev_icmp_eq_f (q := 433) (t0 := 811) dL_law_430 (by decide) rfl hc ?_
                              refine ev_iconst (q := 434) (v := (0 : Int32)) dL_law_433 rfl (by decide) ?_
                              cases h
                              obtain ⟨hr1, hr2⟩ := hret _ hP
                              subst hr1
                              subst hr2
                              exact ev_zret dL_law_434 rfl (Or.inl rfl)
                          · rw [if_neg hc10] at h
                            by_cases hc11 : r1 &&& (31 : Int32) = 11
                            · rw [if_pos hc11] at h
                              refine ev_table_in (q := 435) (off := 403) dL_law_32 (by rw [hc11]; decide) (by rw [hc11]; decide) (by rw [hc11]; rfl) (by decide) ?_
                              refine ev_aload_n (q := 436) dL_law_435 rfl rfl ?_
                              replace h := Option.bind_eq_some_iff.mp h; obtain ⟨q75, hq75, h⟩ := h
                              obtain ⟨hxq75, fsq75, hkq75⟩ := kO_spec hq75
                              subst hxq75
                              replace h := Option.bind_eq_some_iff.mp h; obtain ⟨r74, hr74, h⟩ := h
                              refine ev_invV (M1 := M_X10_morning) (as := []) (fs := fsq75) (ci := 10) dL_law_436 rfl tw_670 cal_X10_morning tw_671 tw_672 (by decide) rfl rfl (Nat.le_of_ble_eq_true rfl) hkq75 rfl (met_X10_morning q75  w _ hr74) ?_
                              refine ev_aload_n (q := 440) dL_law_439 rfl rfl ?_
                              replace h := Option.bind_eq_some_iff.mp h; obtain ⟨q77, hq77, h⟩ := h
                              obtain ⟨hxq77, fsq77, hkq77⟩ := kO_spec hq77
                              subst hxq77
                              replace h := Option.bind_eq_some_iff.mp h; obtain ⟨r76, hr76, h⟩ := h
                              refine ev_invV (M1 := M_X11_morning) (as := []) (fs := fsq77) (ci := 11) dL_law_440 rfl tw_1108 cal_X11_morning tw_1109 tw_1110 (by decide) rfl rfl (Nat.le_of_ble_eq_true rfl) hkq77 rfl (met_X11_morning q77  r74.2 _ hr76) ?_
                              by_cases hc : r74.1 = r76.1
                              · rw [if_pos hc] at h
                                refine ev_icmp_eq_t (q := 811) dL_law_443 (by decide) hc ?_
                                exact ev_weak _ (mLe_some (mLe_some (mLe_some (mLe_some mLe_nil)))) (e_L_law_J811 P (some q75) (some q77) v3 r76.2 _ hk  _ h hP)
                              · rw [if_neg hc] at h
                                refine ev_icmp_eq_f (q := 446) (t0 := 811) dL_law_443 (by decide) rfl hc ?_
                                refine ev_iconst (q := 447) (v := (0 : Int32)) dL_law_446 rfl (by decide) ?_
                                cases h
                                obtain ⟨hr1, hr2⟩ := hret _ hP
                                subst hr1
                                subst hr2
                                exact ev_zret dL_law_447 rfl (Or.inl rfl)
                            · rw [if_neg hc11] at h
                              by_cases hc12 : r1 &&& (31 : Int32) = 12
                              · rw [if_pos hc12] at h
                                refine ev_table_in (q := 448) (off := 416) dL_law_32 (by rw [hc12]; decide) (by rw [hc12]; decide) (by rw [hc12]; rfl) (by decide) ?_
                                refine ev_aload_n (q := 449) dL_law_448 rfl rfl ?_
                                refine ev_aload_n (q := 450) dL_law_449 rfl rfl ?_
                                refine ev_iload_n (q := 451) dL_law_450 rfl rfl ?_
                                refine ev_iconst (q := 452) (v := (1 : Int32)) dL_law_451 rfl (by decide) ?_
                                refine ev_iadd (q := 453) dL_law_452 rfl ?_
                                replace h := Option.bind_eq_some_iff.mp h; obtain ⟨r78, hr78, h⟩ := h
                                refine ev_mS dL_law_453 hr78 rfl ?_
                                refine ev_aload_n (q := 455) dL_law_454 rfl rfl ?_
                                refine ev_iload_n (q := 456) dL_law_455 rfl rfl ?_
                                refine ev_iconst (q := 457) (v := (2 : Int32)) dL_law_456 rfl (by decide) ?_
                                refine ev_iadd (q := 458) dL_law_457 rfl ?_
                                replace h := Option.bind_eq_some_iff.mp h; obtain ⟨r79, hr79, h⟩ := h
                                refine ev_mS dL_law_458 hr79 rfl ?_
                                replace h := Option.bind_eq_some_iff.mp h; obtain ⟨q81, hq81, h⟩ := h
                                obtain ⟨hxq81, fsq81, hkq81⟩ := kO_spec hq81
                                subst hxq81
                                replace h := Option.bind_eq_some_iff.mp h; obtain ⟨r80, hr80, h⟩ := h
                                refine ev_invV (M1 := M_X10_move) (as := [vi r78, vi r79]) (fs := fsq81) (ci := 10) dL_law_459 rfl tw_680 cal_X10_move tw_681 tw_682 (by decide) rfl rfl (Nat.le_of_ble_eq_true rfl) hkq81 rfl (met_X10_move q81 r78 r79 w _ hr80) ?_
                                refine ev_aload_n (q := 463) dL_law_462 rfl rfl ?_
                                refine ev_aload_n (q := 464) dL_law_463 rfl rfl ?_
                                refine ev_iload_n (q := 465) dL_law_464 rfl rfl ?_
                                refine ev_iconst (q := 466) (v := (1 : Int32)) dL_law_465 rfl (by decide) ?_
                                refine ev_iadd (q := 467) dL_law_466 rfl ?_
                                replace h := Option.bind_eq_some_iff.mp h; obtain ⟨r82, hr82, h⟩ := h
                                refine ev_mS dL_law_467 hr82 rfl ?_
                                refine ev_aload_n (q := 469) dL_law_468 rfl rfl ?_
                                refine ev_iload_n (q := 470) dL_law_469 rfl rfl ?_
                                refine ev_iconst (q := 471) (v := (2 : Int32)) dL_law_470 rfl (by decide) ?_
                                refine ev_iadd (q := 472) dL_law_471 rfl ?_
                                replace h := Option.bind_eq_some_iff.mp h; obtain ⟨r83, hr83, h⟩ := h
                                refine ev_mS dL_law_472 hr83 rfl ?_
                                replace h := Option.bind_eq_some_iff.mp h; obtain ⟨q85, hq85, h⟩ := h
                                obtain ⟨hxq85, fsq85, hkq85⟩ := kO_spec hq85
                                subst hxq85
                                replace h := Option.bind_eq_some_iff.mp h; obtain ⟨r84, hr84, h⟩ := h
                                refine ev_invV (M1 := M_X11_move) (as := [vi r82, vi r83]) (fs := fsq85) (ci := 11) dL_law_473 rfl tw_1112 cal_X11_move tw_1113 tw_1114 (by decide) rfl rfl (Nat.le_of_ble_eq_true rfl) hkq85 rfl (met_X11_move q85 r82 r83 r80.2 _ hr84) ?_
                                by_cases hc : r80.1 = r84.1
                                · rw [if_pos hc] at h
                                  refine ev_icmp_eq_t (q := 811) dL_law_476 (by decide) hc ?_
                                  exact ev_weak _ (mLe_some (mLe_some (mLe_some (mLe_some mLe_nil)))) (e_L_law_J811 P (some q81) (some q85) v3 r84.2 _ hk  _ h hP)
                                · rw [if_neg hc] at h
                                  refine ev_icmp_eq_f (q := 479) (t0 := 811) dL_law_476 (by decide) rfl hc ?_
                                  refine ev_iconst (q := 480) (v := (0 : Int32)) dL_law_479 rfl (by decide) ?_
                                  cases h
                                  obtain ⟨hr1, hr2⟩ := hret _ hP
                                  subst hr1
                                  subst hr2
                                  exact ev_zret dL_law_480 rfl (Or.inl rfl)
                              · rw [if_neg hc12] at h
                                by_cases hc13 : r1 &&& (31 : Int32) = 13
                                · rw [if_pos hc13] at h
                                  refine ev_table_in (q := 481) (off := 449) dL_law_32 (by rw [hc13]; decide) (by rw [hc13]; decide) (by rw [hc13]; rfl) (by decide) ?_
                                  refine ev_aload_n (q := 482) dL_law_481 rfl rfl ?_
                                  refine ev_aload_n (q := 483) dL_law_482 rfl rfl ?_
                                  refine ev_iload_n (q := 484) dL_law_483 rfl rfl ?_
                                  refine ev_iconst (q := 485) (v := (1 : Int32)) dL_law_484 rfl (by decide) ?_
                                  refine ev_iadd (q := 486) dL_law_485 rfl ?_
                                  replace h := Option.bind_eq_some_iff.mp h; obtain ⟨r86, hr86, h⟩ := h
                                  refine ev_mS dL_law_486 hr86 rfl ?_
                                  refine ev_aload_n (q := 488) dL_law_487 rfl rfl ?_
                                  refine ev_iload_n (q := 489) dL_law_488 rfl rfl ?_
                                  refine ev_iconst (q := 490) (v := (2 : Int32)) dL_law_489 rfl (by decide) ?_
                                  refine ev_iadd (q := 491) dL_law_490 rfl ?_
                                  replace h := Option.bind_eq_some_iff.mp h; obtain ⟨r87, hr87, h⟩ := h
                                  refine ev_mS dL_law_491 hr87 rfl ?_
                                  refine ev_aload_n (q := 493) dL_law_492 rfl rfl ?_
                                  refine ev_iload_n (q := 494) dL_law_493 rfl rfl ?_
                                  refine ev_iconst (q := 495) (v := (3 : Int32)) dL_law_494 rfl (by decide) ?_
                                  refine ev_iadd (q := 496) dL_law_495 rfl ?_
                                  replace h := Option.bind_eq_some_iff.mp h; obtain ⟨r88, hr88, h⟩ := h
                                  refine ev_mS dL_law_496 hr88 rfl ?_
                                  replace h := Option.bind_eq_some_iff.mp h; obtain ⟨q90, hq90, h⟩ := h
                                  obtain ⟨hxq90, fsq90, hkq90⟩ := kO_spec hq90
                                  subst hxq90
                                  replace h := Option.bind_eq_some_iff.mp h; obtain ⟨r89, hr89, h⟩ := h
                                  refine ev_invV (M1 := M_X10_train) (as := [vi r86, vi r87, vi r88]) (fs := fsq90) (ci := 10) dL_law_497 rfl tw_684 cal_X10_train tw_685 tw_686 (by decide) rfl rfl (Nat.le_of_ble_eq_true rfl) hkq90 rfl (met_X10_train q90 r86 r87 r88 w _ hr89) ?_
                                  refine ev_aload_n (q := 501) dL_law_500 rfl rfl ?_
                                  refine ev_aload_n (q := 502) dL_law_501 rfl rfl ?_
                                  refine ev_iload_n (q := 503) dL_law_502 rfl rfl ?_
                                  refine ev_iconst (q := 504) (v := (1 : Int32)) dL_law_503 rfl (by decide) ?_
                                  refine ev_iadd (q := 505) dL_law_504 rfl ?_
                                  replace h := Option.bind_eq_some_iff.mp h; obtain ⟨r91, hr91, h⟩ := h
                                  refine ev_mS dL_law_505 hr91 rfl ?_
                                  refine ev_aload_n (q := 507) dL_law_506 rfl rfl ?_
                                  refine ev_iload_n (q := 508) dL_law_507 rfl rfl ?_
                                  refine ev_iconst (q := 509) (v := (2 : Int32)) dL_law_508 rfl (by decide) ?_
                                  refine ev_iadd (q := 510) dL_law_509 rfl ?_
                                  replace h := Option.bind_eq_some_iff.mp h; obtain ⟨r92, hr92, h⟩ := h
                                  refine ev_mS dL_law_510 hr92 rfl ?_
                                  refine ev_aload_n (q := 512) dL_law_511 rfl rfl ?_
                                  refine ev_iload_n (q := 513) dL_law_512 rfl rfl ?_
                                  refine ev_iconst (q := 514) (v := (3 : Int32)) dL_law_513 rfl (by decide) ?_
                                  refine ev_iadd (q := 515) dL_law_514 rfl ?_
                                  replace h := Option.bind_eq_some_iff.mp h; obtain ⟨r93, hr93, h⟩ := h
                                  refine ev_mS dL_law_515 hr93 rfl ?_
                                  replace h := Option.bind_eq_some_iff.mp h; obtain ⟨q95, hq95, h⟩ := h
                                  obtain ⟨hxq95, fsq95, hkq95⟩ := kO_spec hq95
                                  subst hxq95
                                  replace h := Option.bind_eq_some_iff.mp h; obtain ⟨r94, hr94, h⟩ := h
                                  refine ev_invV (M1 := M_X11_train) (as := [vi r91, vi r92, vi r93]) (fs := fsq95) (ci := 11) dL_law_516 rfl tw_1116 cal_X11_train tw_1117 tw_1118 (by decide) rfl rfl (Nat.le_of_ble_eq_true rfl) hkq95 rfl (met_X11_train q95 r91 r92 r93 r89.2 _ hr94) ?_
                                  by_cases hc : r89.1 = r94.1
                                  · rw [if_pos hc] at h
                                    refine ev_icmp_eq_t (q := 811) dL_law_519 (by decide) hc ?_
                                    exact ev_weak _ (mLe_some (mLe_some (mLe_some (mLe_some mLe_nil)))) (e_L_law_J811 P (some q90) (some q95) v3 r94.2 _ hk  _ h hP)
                                  · rw [if_neg hc] at h
                                    refine ev_icmp_eq_f (q := 522) (t0 := 811) dL_law_519 (by decide) rfl hc ?_
                                    refine ev_iconst (q := 523) (v := (0 : Int32)) dL_law_522 rfl (by decide) ?_
                                    cases h
                                    obtain ⟨hr1, hr2⟩ := hret _ hP
                                    subst hr1
                                    subst hr2
                                    exact ev_zret dL_law_523 rfl (Or.inl rfl)
                                · rw [if_neg hc13] at h
                                  by_cases hc14 : r1 &&& (31 : Int32) = 14
                                  · rw [if_pos hc14] at h
                                    refine ev_table_in (q := 524) (off := 492) dL_law_32 (by rw [hc14]; decide) (by rw [hc14]; decide) (by rw [hc14]; rfl) (by decide) ?_
                                    refine ev_aload_n (q := 525) dL_law_524 rfl rfl ?_
                                    refine ev_aload_n (q := 526) dL_law_525 rfl rfl ?_
                                    refine ev_iload_n (q := 527) dL_law_526 rfl rfl ?_
                                    refine ev_iconst (q := 528) (v := (1 : Int32)) dL_law_527 rfl (by decide) ?_
                                    refine ev_iadd (q := 529) dL_law_528 rfl ?_
                                    replace h := Option.bind_eq_some_iff.mp h; obtain ⟨r96, hr96, h⟩ := h
                                    refine ev_mS dL_law_529 hr96 rfl ?_
                                    replace h := Option.bind_eq_some_iff.mp h; obtain ⟨q98, hq98, h⟩ := h
                                    obtain ⟨hxq98, fsq98, hkq98⟩ := kO_spec hq98
                                    subst hxq98
                                    replace h := Option.bind_eq_some_iff.mp h; obtain ⟨r97, hr97, h⟩ := h
                                    refine ev_invV (M1 := M_X10_stir) (as := [vi r96]) (fs := fsq98) (ci := 10) dL_law_530 rfl tw_689 cal_X10_stir tw_690 tw_691 (by decide) rfl rfl (Nat.le_of_ble_eq_true rfl) hkq98 rfl (met_X10_stir q98 r96 w _ hr97) ?_
                                    refine ev_aload_n (q := 534) dL_law_533 rfl rfl ?_
                                    refine ev_aload_n (q := 535) dL_law_534 rfl rfl ?_
                                    refine ev_iload_n (q := 536) dL_law_535 rfl rfl ?_
                                    refine ev_iconst (q := 537) (v := (1 : Int32)) dL_law_536 rfl (by decide) ?_
                                    refine ev_iadd (q := 538) dL_law_537 rfl ?_
                                    replace h := Option.bind_eq_some_iff.mp h; obtain ⟨r99, hr99, h⟩ := h
                                    refine ev_mS dL_law_538 hr99 rfl ?_
                                    replace h := Option.bind_eq_some_iff.mp h; obtain ⟨q101, hq101, h⟩ := h
                                    obtain ⟨hxq101, fsq101, hkq101⟩ := kO_spec hq101
                                    subst hxq101
                                    replace h := Option.bind_eq_some_iff.mp h; obtain ⟨r100, hr100, h⟩ := h
                                    refine ev_invV (M1 := M_X11_stir) (as := [vi r99]) (fs := fsq101) (ci := 11) dL_law_539 rfl tw_1120 cal_X11_stir tw_1121 tw_1122 (by decide) rfl rfl (Nat.le_of_ble_eq_true rfl) hkq101 rfl (met_X11_stir q101 r99 r97.2 _ hr100) ?_
                                    by_cases hc : r97.1 = r100.1
                                    · rw [if_pos hc] at h
                                      refine ev_icmp_eq_t (q := 811) dL_law_542 (by decide) hc ?_
                                      exact ev_weak _ (mLe_some (mLe_some (mLe_some (mLe_some mLe_nil)))) (e_L_law_J811 P (some q98) (some q101) v3 r100.2 _ hk  _ h hP)
                                    · rw [if_neg hc] at h
                                      refine ev_icmp_eq_f (q := 545) (t0 := 811) dL_law_542 (by decide) rfl hc ?_
                                      refine ev_iconst (q := 546) (v := (0 : Int32)) dL_law_545 rfl (by decide) ?_
                                      cases h
                                      obtain ⟨hr1, hr2⟩ := hret _ hP
                                      subst hr1
                                      subst hr2
                                      exact ev_zret dL_law_546 rfl (Or.inl rfl)
                                  · rw [if_neg hc14] at h
                                    by_cases hc15 : r1 &&& (31 : Int32) = 15
                                    · rw [if_pos hc15] at h
                                      refine ev_table_in (q := 547) (off := 515) dL_law_32 (by rw [hc15]; decide) (by rw [hc15]; decide) (by rw [hc15]; rfl) (by decide) ?_
                                      refine ev_aload_n (q := 548) dL_law_547 rfl rfl ?_
                                      refine ev_aload_n (q := 549) dL_law_548 rfl rfl ?_
                                      refine ev_iload_n (q := 550) dL_law_549 rfl rfl ?_
                                      refine ev_iconst (q := 551) (v := (1 : Int32)) dL_law_550 rfl (by decide) ?_
                                      refine ev_iadd (q := 552) dL_law_551 rfl ?_
                                      replace h := Option.bind_eq_some_iff.mp h; obtain ⟨r102, hr102, h⟩ := h
                                      refine ev_mS dL_law_552 hr102 rfl ?_
                                      replace h := Option.bind_eq_some_iff.mp h; obtain ⟨q104, hq104, h⟩ := h
                                      obtain ⟨hxq104, fsq104, hkq104⟩ := kO_spec hq104
                                      subst hxq104
                                      replace h := Option.bind_eq_some_iff.mp h; obtain ⟨r103, hr103, h⟩ := h
                                      refine ev_invV (M1 := M_X10_all) (as := [vi r102]) (fs := fsq104) (ci := 10) dL_law_553 rfl tw_693 cal_X10_all tw_694 tw_695 (by decide) rfl rfl (Nat.le_of_ble_eq_true rfl) hkq104 rfl (met_X10_all q104 r102 w _ hr103) ?_
                                      refine ev_aload_n (q := 557) dL_law_556 rfl rfl ?_
                                      refine ev_aload_n (q := 558) dL_law_557 rfl rfl ?_
                                      refine ev_iload_n (q := 559) dL_law_558 rfl rfl ?_
                                      refine ev_iconst (q := 560) (v := (1 : Int32)) dL_law_559 rfl (by decide) ?_
                                      refine ev_iadd (q := 561) dL_law_560 rfl ?_
                                      replace h := Option.bind_eq_some_iff.mp h; obtain ⟨r105, hr105, h⟩ := h
                                      refine ev_mS dL_law_561 hr105 rfl ?_
                                      replace h := Option.bind_eq_some_iff.mp h; obtain ⟨q107, hq107, h⟩ := h
                                      obtain ⟨hxq107, fsq107, hkq107⟩ := kO_spec hq107
                                      subst hxq107
                                      replace h := Option.bind_eq_some_iff.mp h; obtain ⟨r106, hr106, h⟩ := h
                                      refine ev_invV (M1 := M_X11_all) (as := [vi r105]) (fs := fsq107) (ci := 11) dL_law_562 rfl tw_1125 cal_X11_all tw_1126 tw_1127 (by decide) rfl rfl (Nat.le_of_ble_eq_true rfl) hkq107 rfl (met_X11_all q107 r105 r103.2 _ hr106) ?_
                                      by_cases hc : r103.1 = r106.1
                                      · rw [if_pos hc] at h
                                        refine ev_icmp_eq_t (q := 811) dL_law_565 (by decide) hc ?_
                                        exact ev_weak _ (mLe_some (mLe_some (mLe_some (mLe_some mLe_nil)))) (e_L_law_J811 P (some q104) (some q107) v3 r106.2 _ hk  _ h hP)
                                      · rw [if_neg hc] at h
                                        refine ev_icmp_eq_f (q := 568) (t0 := 811) dL_law_565 (by decide) rfl hc ?_
                                        refine ev_iconst (q := 569) (v := (0 : Int32)) dL_law_568 rfl (by decide) ?_
                                        cases h
                                        obtain ⟨hr1, hr2⟩ := hret _ hP
                                        subst hr1
                                        subst hr2
                                        exact ev_zret dL_law_569 rfl (Or.inl rfl)
                                    · rw [if_neg hc15] at h
                                      by_cases hc16 : r1 &&& (31 : Int32) = 16
                                      · rw [if_pos hc16] at h
                                        refine ev_table_in (q := 570) (off := 538) dL_law_32 (by rw [hc16]; decide) (by rw [hc16]; decide) (by rw [hc16]; rfl) (by decide) ?_
                                        refine ev_aload_n (q := 571) dL_law_570 rfl rfl ?_
                                        replace h := Option.bind_eq_some_iff.mp h; obtain ⟨q109, hq109, h⟩ := h
                                        obtain ⟨hxq109, fsq109, hkq109⟩ := kO_spec hq109
                                        subst hxq109
                                        replace h := Option.bind_eq_some_iff.mp h; obtain ⟨r108, hr108, h⟩ := h
                                        refine ev_invV (M1 := M_X10_nights) (as := []) (fs := fsq109) (ci := 10) dL_law_571 rfl tw_738 cal_X10_nights tw_739 tw_740 (by decide) rfl rfl (Nat.le_of_ble_eq_true rfl) hkq109 rfl (met_X10_nights q109  w _ hr108) ?_
                                        refine ev_aload_n (q := 575) dL_law_574 rfl rfl ?_
                                        replace h := Option.bind_eq_some_iff.mp h; obtain ⟨q111, hq111, h⟩ := h
                                        obtain ⟨hxq111, fsq111, hkq111⟩ := kO_spec hq111
                                        subst hxq111
                                        replace h := Option.bind_eq_some_iff.mp h; obtain ⟨r110, hr110, h⟩ := h
                                        refine ev_invV (M1 := M_X11_nights) (as := []) (fs := fsq111) (ci := 11) dL_law_575 rfl tw_1148 cal_X11_nights tw_1149 tw_1150 (by decide) rfl rfl (Nat.le_of_ble_eq_true rfl) hkq111 rfl (met_X11_nights q111  r108.2 _ hr110) ?_
                                        by_cases hc : r108.1 = r110.1
                                        · rw [if_pos hc] at h
                                          refine ev_icmp_eq_t (q := 811) dL_law_578 (by decide) hc ?_
                                          exact ev_weak _ (mLe_some (mLe_some (mLe_some (mLe_some mLe_nil)))) (e_L_law_J811 P (some q109) (some q111) v3 r110.2 _ hk  _ h hP)
                                        · rw [if_neg hc] at h
                                          refine ev_icmp_eq_f (q := 581) (t0 := 811) dL_law_578 (by decide) rfl hc ?_
                                          refine ev_iconst (q := 582) (v := (0 : Int32)) dL_law_581 rfl (by decide) ?_
                                          cases h
                                          obtain ⟨hr1, hr2⟩ := hret _ hP
                                          subst hr1
                                          subst hr2
                                          exact ev_zret dL_law_582 rfl (Or.inl rfl)
                                      · rw [if_neg hc16] at h
                                        by_cases hc17 : r1 &&& (31 : Int32) = 17
                                        · rw [if_pos hc17] at h
                                          refine ev_table_in (q := 583) (off := 551) dL_law_32 (by rw [hc17]; decide) (by rw [hc17]; decide) (by rw [hc17]; rfl) (by decide) ?_
                                          refine ev_aload_n (q := 584) dL_law_583 rfl rfl ?_
                                          refine ev_aload_n (q := 585) dL_law_584 rfl rfl ?_
                                          refine ev_iload_n (q := 586) dL_law_585 rfl rfl ?_
                                          refine ev_iconst (q := 587) (v := (1 : Int32)) dL_law_586 rfl (by decide) ?_
                                          refine ev_iadd (q := 588) dL_law_587 rfl ?_
                                          replace h := Option.bind_eq_some_iff.mp h; obtain ⟨r112, hr112, h⟩ := h
                                          refine ev_mS dL_law_588 hr112 rfl ?_
                                          refine ev_aload_n (q := 590) dL_law_589 rfl rfl ?_
                                          refine ev_iload_n (q := 591) dL_law_590 rfl rfl ?_
                                          refine ev_iconst (q := 592) (v := (2 : Int32)) dL_law_591 rfl (by decide) ?_
                                          refine ev_iadd (q := 593) dL_law_592 rfl ?_
                                          replace h := Option.bind_eq_some_iff.mp h; obtain ⟨r113, hr113, h⟩ := h
                                          refine ev_mS dL_law_593 hr113 rfl ?_
                                          refine ev_aload_n (q := 595) dL_law_594 rfl rfl ?_
                                          refine ev_iload_n (q := 596) dL_law_595 rfl rfl ?_
                                          refine ev_iconst (q := 597) (v := (3 : Int32)) dL_law_596 rfl (by decide) ?_
                                          refine ev_iadd (q := 598) dL_law_597 rfl ?_
                                          replace h := Option.bind_eq_some_iff.mp h; obtain ⟨r114, hr114, h⟩ := h
                                          refine ev_mS dL_law_598 hr114 rfl ?_
                                          replace h := Option.bind_eq_some_iff.mp h; obtain ⟨q116, hq116, h⟩ := h
                                          obtain ⟨hxq116, fsq116, hkq116⟩ := kO_spec hq116
                                          subst hxq116
                                          replace h := Option.bind_eq_some_iff.mp h; obtain ⟨r115, hr115, h⟩ := h
                                          refine ev_invV (M1 := M_X10_odds) (as := [vi r112, vi r113, vi r114]) (fs := fsq116) (ci := 10) dL_law_599 rfl tw_742 cal_X10_odds tw_743 tw_744 (by decide) rfl rfl (Nat.le_of_ble_eq_true rfl) hkq116 rfl (met_X10_odds q116 r112 r113 r114 w _ hr115) ?_
                                          refine ev_aload_n (q := 603) dL_law_602 rfl rfl ?_
                                          refine ev_aload_n (q := 604) dL_law_603 rfl rfl ?_
                                          refine ev_iload_n (q := 605) dL_law_604 rfl rfl ?_
                                          refine ev_iconst (q := 606) (v := (1 : Int32)) dL_law_605 rfl (by decide) ?_
                                          refine ev_iadd (q := 607) dL_law_606 rfl ?_
                                          replace h := Option.bind_eq_some_iff.mp h; obtain ⟨r117, hr117, h⟩ := h
                                          refine ev_mS dL_law_607 hr117 rfl ?_
                                          refine ev_aload_n (q := 609) dL_law_608 rfl rfl ?_
                                          refine ev_iload_n (q := 610) dL_law_609 rfl rfl ?_
                                          refine ev_iconst (q := 611) (v := (2 : Int32)) dL_law_610 rfl (by decide) ?_
                                          refine ev_iadd (q := 612) dL_law_611 rfl ?_
                                          replace h := Option.bind_eq_some_iff.mp h; obtain ⟨r118, hr118, h⟩ := h
                                          refine ev_mS dL_law_612 hr118 rfl ?_
                                          refine ev_aload_n (q := 614) dL_law_613 rfl rfl ?_
                                          refine ev_iload_n (q := 615) dL_law_614 rfl rfl ?_
                                          refine ev_iconst (q := 616) (v := (3 : Int32)) dL_law_615 rfl (by decide) ?_
                                          refine ev_iadd (q := 617) dL_law_616 rfl ?_
                                          replace h := Option.bind_eq_some_iff.mp h; obtain ⟨r119, hr119, h⟩ := h
                                          refine ev_mS dL_law_617 hr119 rfl ?_
                                          replace h := Option.bind_eq_some_iff.mp h; obtain ⟨q121, hq121, h⟩ := h
                                          obtain ⟨hxq121, fsq121, hkq121⟩ := kO_spec hq121
                                          subst hxq121
                                          replace h := Option.bind_eq_some_iff.mp h; obtain ⟨r120, hr120, h⟩ := h
                                          refine ev_invV (M1 := M_X11_odds) (as := [vi r117, vi r118, vi r119]) (fs := fsq121) (ci := 11) dL_law_618 rfl tw_1156 cal_X11_odds tw_1157 tw_1158 (by decide) rfl rfl (Nat.le_of_ble_eq_true rfl) hkq121 rfl (met_X11_odds q121 r117 r118 r119 w _ hr120) ?_
                                          by_cases hc : r115 = r120
                                          · rw [if_pos hc] at h
                                            refine ev_icmp_eq_t (q := 811) dL_law_621 (by decide) hc ?_
                                            exact ev_weak _ (mLe_some (mLe_some (mLe_some (mLe_some mLe_nil)))) (e_L_law_J811 P (some q116) (some q121) v3 w _ hk  _ h hP)
                                          · rw [if_neg hc] at h
                                            refine ev_icmp_eq_f (q := 624) (t0 := 811) dL_law_621 (by decide) rfl hc ?_
                                            refine ev_iconst (q := 625) (v := (0 : Int32)) dL_law_624 rfl (by decide) ?_
                                            cases h
                                            obtain ⟨hr1, hr2⟩ := hret _ hP
                                            subst hr1
                                            subst hr2
                                            exact ev_zret dL_law_625 rfl (Or.inl rfl)
                                        · rw [if_neg hc17] at h
                                          by_cases hc18 : r1 &&& (31 : Int32) = 18
                                          · rw [if_pos hc18] at h
                                            refine ev_table_in (q := 626) (off := 594) dL_law_32 (by rw [hc18]; decide) (by rw [hc18]; decide) (by rw [hc18]; rfl) (by decide) ?_
                                            refine ev_aload_n (q := 627) dL_law_626 rfl rfl ?_
                                            refine ev_aload_n (q := 628) dL_law_627 rfl rfl ?_
                                            refine ev_iload_n (q := 629) dL_law_628 rfl rfl ?_
                                            refine ev_iconst (q := 630) (v := (1 : Int32)) dL_law_629 rfl (by decide) ?_
                                            refine ev_iadd (q := 631) dL_law_630 rfl ?_
                                            replace h := Option.bind_eq_some_iff.mp h; obtain ⟨r122, hr122, h⟩ := h
                                            refine ev_mS dL_law_631 hr122 rfl ?_
                                            replace h := Option.bind_eq_some_iff.mp h; obtain ⟨q124, hq124, h⟩ := h
                                            obtain ⟨hxq124, fsq124, hkq124⟩ := kO_spec hq124
                                            subst hxq124
                                            replace h := Option.bind_eq_some_iff.mp h; obtain ⟨r123, hr123, h⟩ := h
                                            refine ev_invV (M1 := M_X10_who) (as := [vi r122]) (fs := fsq124) (ci := 10) dL_law_632 rfl tw_746 cal_X10_who tw_747 tw_748 (by decide) rfl rfl (Nat.le_of_ble_eq_true rfl) hkq124 rfl (met_X10_who q124 r122 w _ hr123) ?_
                                            refine ev_aload_n (q := 636) dL_law_635 rfl rfl ?_
                                            refine ev_aload_n (q := 637) dL_law_636 rfl rfl ?_
                                            refine ev_iload_n (q := 638) dL_law_637 rfl rfl ?_
                                            refine ev_iconst (q := 639) (v := (1 : Int32)) dL_law_638 rfl (by decide) ?_
                                            refine ev_iadd (q := 640) dL_law_639 rfl ?_
                                            replace h := Option.bind_eq_some_iff.mp h; obtain ⟨r125, hr125, h⟩ := h
                                            refine ev_mS dL_law_640 hr125 rfl ?_
                                            replace h := Option.bind_eq_some_iff.mp h; obtain ⟨q127, hq127, h⟩ := h
                                            obtain ⟨hxq127, fsq127, hkq127⟩ := kO_spec hq127
                                            subst hxq127
                                            replace h := Option.bind_eq_some_iff.mp h; obtain ⟨r126, hr126, h⟩ := h
                                            refine ev_invV (M1 := M_X11_who) (as := [vi r125]) (fs := fsq127) (ci := 11) dL_law_641 rfl tw_1160 cal_X11_who tw_1161 tw_1162 (by decide) rfl rfl (Nat.le_of_ble_eq_true rfl) hkq127 rfl (met_X11_who q127 r125 w _ hr126) ?_
                                            by_cases hc : r123 = r126
                                            · rw [if_pos hc] at h
                                              refine ev_icmp_eq_t (q := 811) dL_law_644 (by decide) hc ?_
                                              exact ev_weak _ (mLe_some (mLe_some (mLe_some (mLe_some mLe_nil)))) (e_L_law_J811 P (some q124) (some q127) v3 w _ hk  _ h hP)
                                            · rw [if_neg hc] at h
                                              refine ev_icmp_eq_f (q := 647) (t0 := 811) dL_law_644 (by decide) rfl hc ?_
                                              refine ev_iconst (q := 648) (v := (0 : Int32)) dL_law_647 rfl (by decide) ?_
                                              cases h
                                              obtain ⟨hr1, hr2⟩ := hret _ hP
                                              subst hr1
                                              subst hr2
                                              exact ev_zret dL_law_648 rfl (Or.inl rfl)
                                          · rw [if_neg hc18] at h
                                            by_cases hc19 : r1 &&& (31 : Int32) = 19
                                            · rw [if_pos hc19] at h
                                              refine ev_table_in (q := 649) (off := 617) dL_law_32 (by rw [hc19]; decide) (by rw [hc19]; decide) (by rw [hc19]; rfl) (by decide) ?_
                                              refine ev_aload_n (q := 650) dL_law_649 rfl rfl ?_
                                              refine ev_aload_n (q := 651) dL_law_650 rfl rfl ?_
                                              refine ev_iload_n (q := 652) dL_law_651 rfl rfl ?_
                                              refine ev_iconst (q := 653) (v := (1 : Int32)) dL_law_652 rfl (by decide) ?_
                                              refine ev_iadd (q := 654) dL_law_653 rfl ?_
                                              replace h := Option.bind_eq_some_iff.mp h; obtain ⟨r128, hr128, h⟩ := h
                                              refine ev_mS dL_law_654 hr128 rfl ?_
                                              refine ev_aload_n (q := 656) dL_law_655 rfl rfl ?_
                                              refine ev_iload_n (q := 657) dL_law_656 rfl rfl ?_
                                              refine ev_iconst (q := 658) (v := (2 : Int32)) dL_law_657 rfl (by decide) ?_
                                              refine ev_iadd (q := 659) dL_law_658 rfl ?_
                                              replace h := Option.bind_eq_some_iff.mp h; obtain ⟨r129, hr129, h⟩ := h
                                              refine ev_mS dL_law_659 hr129 rfl ?_
                                              refine ev_aload_n (q := 661) dL_law_660 rfl rfl ?_
                                              refine ev_iload_n (q := 662) dL_law_661 rfl rfl ?_
                                              refine ev_iconst (q := 663) (v := (3 : Int32)) dL_law_662 rfl (by decide) ?_
                                              refine ev_iadd (q := 664) dL_law_663 rfl ?_
                                              replace h := Option.bind_eq_some_iff.mp h; obtain ⟨r130, hr130, h⟩ := h
                                              refine ev_mS dL_law_664 hr130 rfl ?_
                                              replace h := Option.bind_eq_some_iff.mp h; obtain ⟨q132, hq132, h⟩ := h
                                              obtain ⟨hxq132, fsq132, hkq132⟩ := kO_spec hq132
                                              subst hxq132
                                              replace h := Option.bind_eq_some_iff.mp h; obtain ⟨r131, hr131, h⟩ := h
                                              refine ev_invV (M1 := M_X10_see) (as := [vi r128, vi r129, vi r130]) (fs := fsq132) (ci := 10) dL_law_665 rfl tw_754 cal_X10_see tw_755 tw_756 (by decide) rfl rfl (Nat.le_of_ble_eq_true rfl) hkq132 rfl (met_X10_see q132 r128 r129 r130 w _ hr131) ?_
                                              refine ev_aload_n (q := 669) dL_law_668 rfl rfl ?_
                                              refine ev_aload_n (q := 670) dL_law_669 rfl rfl ?_
                                              refine ev_iload_n (q := 671) dL_law_670 rfl rfl ?_
                                              refine ev_iconst (q := 672) (v := (1 : Int32)) dL_law_671 rfl (by decide) ?_
                                              refine ev_iadd (q := 673) dL_law_672 rfl ?_
                                              replace h := Option.bind_eq_some_iff.mp h; obtain ⟨r133, hr133, h⟩ := h
                                              refine ev_mS dL_law_673 hr133 rfl ?_
                                              refine ev_aload_n (q := 675) dL_law_674 rfl rfl ?_
                                              refine ev_iload_n (q := 676) dL_law_675 rfl rfl ?_
                                              refine ev_iconst (q := 677) (v := (2 : Int32)) dL_law_676 rfl (by decide) ?_
                                              refine ev_iadd (q := 678) dL_law_677 rfl ?_
                                              replace h := Option.bind_eq_some_iff.mp h; obtain ⟨r134, hr134, h⟩ := h
                                              refine ev_mS dL_law_678 hr134 rfl ?_
                                              refine ev_aload_n (q := 680) dL_law_679 rfl rfl ?_
                                              refine ev_iload_n (q := 681) dL_law_680 rfl rfl ?_
                                              refine ev_iconst (q := 682) (v := (3 : Int32)) dL_law_681 rfl (by decide) ?_
                                              refine ev_iadd (q := 683) dL_law_682 rfl ?_
                                              replace h := Option.bind_eq_some_iff.mp h; obtain ⟨r135, hr135, h⟩ := h
                                              refine ev_mS dL_law_683 hr135 rfl ?_
                                              replace h := Option.bind_eq_some_iff.mp h; obtain ⟨q137, hq137, h⟩ := h
                                              obtain ⟨hxq137, fsq137, hkq137⟩ := kO_spec hq137
                                              subst hxq137
                                              replace h := Option.bind_eq_some_iff.mp h; obtain ⟨r136, hr136, h⟩ := h
                                              refine ev_invV (M1 := M_X11_see) (as := [vi r133, vi r134, vi r135]) (fs := fsq137) (ci := 11) dL_law_684 rfl tw_1168 cal_X11_see tw_1169 tw_1170 (by decide) rfl rfl (Nat.le_of_ble_eq_true rfl) hkq137 rfl (met_X11_see q137 r133 r134 r135 r131.2 _ hr136) ?_
                                              by_cases hc : r131.1 = r136.1
                                              · rw [if_pos hc] at h
                                                refine ev_icmp_eq_t (q := 811) dL_law_687 (by decide) hc ?_
                                                exact ev_weak _ (mLe_some (mLe_some (mLe_some (mLe_some mLe_nil)))) (e_L_law_J811 P (some q132) (some q137) v3 r136.2 _ hk  _ h hP)
                                              · rw [if_neg hc] at h
                                                refine ev_icmp_eq_f (q := 690) (t0 := 811) dL_law_687 (by decide) rfl hc ?_
                                                refine ev_iconst (q := 691) (v := (0 : Int32)) dL_law_690 rfl (by decide) ?_
                                                cases h
                                                obtain ⟨hr1, hr2⟩ := hret _ hP
                                                subst hr1
                                                subst hr2
                                                exact ev_zret dL_law_691 rfl (Or.inl rfl)
                                            · rw [if_neg hc19] at h
                                              by_cases hc20 : r1 &&& (31 : Int32) = 20
                                              · rw [if_pos hc20] at h
                                                refine ev_table_in (q := 692) (off := 660) dL_law_32 (by rw [hc20]; decide) (by rw [hc20]; decide) (by rw [hc20]; rfl) (by decide) ?_
                                                refine ev_aload_n (q := 693) dL_law_692 rfl rfl ?_
                                                replace h := Option.bind_eq_some_iff.mp h; obtain ⟨q139, hq139, h⟩ := h
                                                obtain ⟨hxq139, fsq139, hkq139⟩ := kO_spec hq139
                                                subst hxq139
                                                replace h := Option.bind_eq_some_iff.mp h; obtain ⟨r138, hr138, h⟩ := h
                                                refine ev_invV (M1 := M_X10_forget) (as := []) (fs := fsq139) (ci := 10) dL_law_693 rfl tw_763 cal_X10_forget tw_764 tw_765 (by decide) rfl rfl (Nat.le_of_ble_eq_true rfl) hkq139 rfl (met_X10_forget q139  w _ hr138) ?_
                                                refine ev_aload_n (q := 697) dL_law_696 rfl rfl ?_
                                                replace h := Option.bind_eq_some_iff.mp h; obtain ⟨q141, hq141, h⟩ := h
                                                obtain ⟨hxq141, fsq141, hkq141⟩ := kO_spec hq141
                                                subst hxq141
                                                replace h := Option.bind_eq_some_iff.mp h; obtain ⟨r140, hr140, h⟩ := h
                                                refine ev_invV (M1 := M_X11_forget) (as := []) (fs := fsq141) (ci := 11) dL_law_697 rfl tw_1172 cal_X11_forget tw_1173 tw_1174 (by decide) rfl rfl (Nat.le_of_ble_eq_true rfl) hkq141 rfl (met_X11_forget q141  r138.2 _ hr140) ?_
                                                by_cases hc : r138.1 = r140.1
                                                · rw [if_pos hc] at h
                                                  refine ev_icmp_eq_t (q := 811) dL_law_700 (by decide) hc ?_
                                                  exact ev_weak _ (mLe_some (mLe_some (mLe_some (mLe_some mLe_nil)))) (e_L_law_J811 P (some q139) (some q141) v3 r140.2 _ hk  _ h hP)
                                                · rw [if_neg hc] at h
                                                  refine ev_icmp_eq_f (q := 703) (t0 := 811) dL_law_700 (by decide) rfl hc ?_
                                                  refine ev_iconst (q := 704) (v := (0 : Int32)) dL_law_703 rfl (by decide) ?_
                                                  cases h
                                                  obtain ⟨hr1, hr2⟩ := hret _ hP
                                                  subst hr1
                                                  subst hr2
                                                  exact ev_zret dL_law_704 rfl (Or.inl rfl)
                                              · rw [if_neg hc20] at h
                                                by_cases hc21 : r1 &&& (31 : Int32) = 21
                                                · rw [if_pos hc21] at h
                                                  refine ev_table_in (q := 705) (off := 673) dL_law_32 (by rw [hc21]; decide) (by rw [hc21]; decide) (by rw [hc21]; rfl) (by decide) ?_
                                                  refine ev_aload_n (q := 706) dL_law_705 rfl rfl ?_
                                                  refine ev_aload_n (q := 707) dL_law_706 rfl rfl ?_
                                                  refine ev_iload_n (q := 708) dL_law_707 rfl rfl ?_
                                                  refine ev_iconst (q := 709) (v := (1 : Int32)) dL_law_708 rfl (by decide) ?_
                                                  refine ev_iadd (q := 710) dL_law_709 rfl ?_
                                                  replace h := Option.bind_eq_some_iff.mp h; obtain ⟨r142, hr142, h⟩ := h
                                                  refine ev_mS dL_law_710 hr142 rfl ?_
                                                  refine ev_aload_n (q := 712) dL_law_711 rfl rfl ?_
                                                  refine ev_iload_n (q := 713) dL_law_712 rfl rfl ?_
                                                  refine ev_iconst (q := 714) (v := (2 : Int32)) dL_law_713 rfl (by decide) ?_
                                                  refine ev_iadd (q := 715) dL_law_714 rfl ?_
                                                  replace h := Option.bind_eq_some_iff.mp h; obtain ⟨r143, hr143, h⟩ := h
                                                  refine ev_mS dL_law_715 hr143 rfl ?_
                                                  refine ev_aload_n (q := 717) dL_law_716 rfl rfl ?_
                                                  refine ev_iload_n (q := 718) dL_law_717 rfl rfl ?_
                                                  refine ev_iconst (q := 719) (v := (3 : Int32)) dL_law_718 rfl (by decide) ?_
                                                  refine ev_iadd (q := 720) dL_law_719 rfl ?_
                                                  replace h := Option.bind_eq_some_iff.mp h; obtain ⟨r144, hr144, h⟩ := h
                                                  refine ev_mS dL_law_720 hr144 rfl ?_
                                                  replace h := Option.bind_eq_some_iff.mp h; obtain ⟨q146, hq146, h⟩ := h
                                                  obtain ⟨hxq146, fsq146, hkq146⟩ := kO_spec hq146
                                                  subst hxq146
                                                  replace h := Option.bind_eq_some_iff.mp h; obtain ⟨r145, hr145, h⟩ := h
                                                  refine ev_invV (M1 := M_X10_seasons) (as := [vi r142, vi r143, vi r144]) (fs := fsq146) (ci := 10) dL_law_721 rfl tw_767 cal_X10_seasons tw_768 tw_769 (by decide) rfl rfl (Nat.le_of_ble_eq_true rfl) hkq146 rfl (met_X10_seasons q146 r142 r143 r144 w _ hr145) ?_
                                                  refine ev_aload_n (q := 725) dL_law_724 rfl rfl ?_
                                                  refine ev_aload_n (q := 726) dL_law_725 rfl rfl ?_
                                                  refine ev_iload_n (q := 727) dL_law_726 rfl rfl ?_
                                                  refine ev_iconst (q := 728) (v := (1 : Int32)) dL_law_727 rfl (by decide) ?_
                                                  refine ev_iadd (q := 729) dL_law_728 rfl ?_
                                                  replace h := Option.bind_eq_some_iff.mp h; obtain ⟨r147, hr147, h⟩ := h
                                                  refine ev_mS dL_law_729 hr147 rfl ?_
                                                  refine ev_aload_n (q := 731) dL_law_730 rfl rfl ?_
                                                  refine ev_iload_n (q := 732) dL_law_731 rfl rfl ?_
                                                  refine ev_iconst (q := 733) (v := (2 : Int32)) dL_law_732 rfl (by decide) ?_
                                                  refine ev_iadd (q := 734) dL_law_733 rfl ?_
                                                  replace h := Option.bind_eq_some_iff.mp h; obtain ⟨r148, hr148, h⟩ := h
                                                  refine ev_mS dL_law_734 hr148 rfl ?_
                                                  refine ev_aload_n (q := 736) dL_law_735 rfl rfl ?_
                                                  refine ev_iload_n (q := 737) dL_law_736 rfl rfl ?_
                                                  refine ev_iconst (q := 738) (v := (3 : Int32)) dL_law_737 rfl (by decide) ?_
                                                  refine ev_iadd (q := 739) dL_law_738 rfl ?_
                                                  replace h := Option.bind_eq_some_iff.mp h; obtain ⟨r149, hr149, h⟩ := h
                                                  refine ev_mS dL_law_739 hr149 rfl ?_
                                                  replace h := Option.bind_eq_some_iff.mp h; obtain ⟨q151, hq151, h⟩ := h
                                                  obtain ⟨hxq151, fsq151, hkq151⟩ := kO_spec hq151
                                                  subst hxq151
                                                  replace h := Option.bind_eq_some_iff.mp h; obtain ⟨r150, hr150, h⟩ := h
                                                  refine ev_invV (M1 := M_X11_seasons) (as := [vi r147, vi r148, vi r149]) (fs := fsq151) (ci := 11) dL_law_740 rfl tw_1176 cal_X11_seasons tw_1177 tw_1178 (by decide) rfl rfl (Nat.le_of_ble_eq_true rfl) hkq151 rfl (met_X11_seasons q151 r147 r148 r149 w _ hr150) ?_
                                                  by_cases hc : r145 = r150.1
                                                  · rw [if_pos hc] at h
                                                    refine ev_icmp_eq_t (q := 811) dL_law_743 (by decide) hc ?_
                                                    exact ev_weak _ (mLe_some (mLe_some (mLe_some (mLe_some mLe_nil)))) (e_L_law_J811 P (some q146) (some q151) v3 r150.2 _ hk  _ h hP)
                                                  · rw [if_neg hc] at h
                                                    refine ev_icmp_eq_f (q := 746) (t0 := 811) dL_law_743 (by decide) rfl hc ?_
                                                    refine ev_iconst (q := 747) (v := (0 : Int32)) dL_law_746 rfl (by decide) ?_
                                                    cases h
                                                    obtain ⟨hr1, hr2⟩ := hret _ hP
                                                    subst hr1
                                                    subst hr2
                                                    exact ev_zret dL_law_747 rfl (Or.inl rfl)
                                                · rw [if_neg hc21] at h
                                                  by_cases hc22 : r1 &&& (31 : Int32) = 22
                                                  · rw [if_pos hc22] at h
                                                    refine ev_table_in (q := 748) (off := 716) dL_law_32 (by rw [hc22]; decide) (by rw [hc22]; decide) (by rw [hc22]; rfl) (by decide) ?_
                                                    refine ev_aload_n (q := 749) dL_law_748 rfl rfl ?_
                                                    replace h := Option.bind_eq_some_iff.mp h; obtain ⟨q153, hq153, h⟩ := h
                                                    obtain ⟨hxq153, fsq153, hkq153⟩ := kO_spec hq153
                                                    subst hxq153
                                                    replace h := Option.bind_eq_some_iff.mp h; obtain ⟨r152, hr152, h⟩ := h
                                                    refine ev_invV (M1 := M_X10_image) (as := []) (fs := fsq153) (ci := 10) dL_law_749 rfl tw_781 cal_X10_image tw_782 tw_783 (by decide) rfl rfl (Nat.le_of_ble_eq_true rfl) hkq153 rfl (met_X10_image q153  w _ hr152) ?_
                                                    refine ev_aload_n (q := 753) dL_law_752 rfl rfl ?_
                                                    replace h := Option.bind_eq_some_iff.mp h; obtain ⟨q155, hq155, h⟩ := h
                                                    obtain ⟨hxq155, fsq155, hkq155⟩ := kO_spec hq155
                                                    subst hxq155
                                                    replace h := Option.bind_eq_some_iff.mp h; obtain ⟨r154, hr154, h⟩ := h
                                                    refine ev_invV (M1 := M_X11_image) (as := []) (fs := fsq155) (ci := 11) dL_law_753 rfl tw_1189 cal_X11_image tw_1190 tw_1191 (by decide) rfl rfl (Nat.le_of_ble_eq_true rfl) hkq155 rfl (met_X11_image q155  r152.2 _ hr154) ?_
                                                    by_cases hc : r152.1 = r154.1
                                                    · rw [if_pos hc] at h
                                                      refine ev_icmp_eq_t (q := 811) dL_law_756 (by decide) hc ?_
                                                      exact ev_weak _ (mLe_some (mLe_some (mLe_some (mLe_some mLe_nil)))) (e_L_law_J811 P (some q153) (some q155) v3 r154.2 _ hk  _ h hP)
                                                    · rw [if_neg hc] at h
                                                      refine ev_icmp_eq_f (q := 759) (t0 := 811) dL_law_756 (by decide) rfl hc ?_
                                                      refine ev_iconst (q := 760) (v := (0 : Int32)) dL_law_759 rfl (by decide) ?_
                                                      cases h
                                                      obtain ⟨hr1, hr2⟩ := hret _ hP
                                                      subst hr1
                                                      subst hr2
                                                      exact ev_zret dL_law_760 rfl (Or.inl rfl)
                                                  · rw [if_neg hc22] at h
                                                    by_cases hc23 : r1 &&& (31 : Int32) = 23
                                                    · rw [if_pos hc23] at h
                                                      refine ev_table_in (q := 761) (off := 729) dL_law_32 (by rw [hc23]; decide) (by rw [hc23]; decide) (by rw [hc23]; rfl) (by decide) ?_
                                                      refine ev_aload_n (q := 762) dL_law_761 rfl rfl ?_
                                                      replace h := Option.bind_eq_some_iff.mp h; obtain ⟨q157, hq157, h⟩ := h
                                                      obtain ⟨hxq157, fsq157, hkq157⟩ := kO_spec hq157
                                                      subst hxq157
                                                      replace h := Option.bind_eq_some_iff.mp h; obtain ⟨r156, hr156, h⟩ := h
                                                      refine ev_invV (M1 := M_X10_restore) (as := []) (fs := fsq157) (ci := 10) dL_law_762 rfl tw_794 cal_X10_restore tw_795 tw_796 (by decide) rfl rfl (Nat.le_of_ble_eq_true rfl) hkq157 rfl (met_X10_restore q157  w _ hr156) ?_
                                                      refine ev_aload_n (q := 766) dL_law_765 rfl rfl ?_
                                                      replace h := Option.bind_eq_some_iff.mp h; obtain ⟨q159, hq159, h⟩ := h
                                                      obtain ⟨hxq159, fsq159, hkq159⟩ := kO_spec hq159
                                                      subst hxq159
                                                      replace h := Option.bind_eq_some_iff.mp h; obtain ⟨r158, hr158, h⟩ := h
                                                      refine ev_invV (M1 := M_X11_restore) (as := []) (fs := fsq159) (ci := 11) dL_law_766 rfl tw_1196 cal_X11_restore tw_1197 tw_1198 (by decide) rfl rfl (Nat.le_of_ble_eq_true rfl) hkq159 rfl (met_X11_restore q159  r156.2 _ hr158) ?_
                                                      by_cases hc : r156.1 = r158.1
                                                      · rw [if_pos hc] at h
                                                        refine ev_icmp_eq_t (q := 811) dL_law_769 (by decide) hc ?_
                                                        exact ev_weak _ (mLe_some (mLe_some (mLe_some (mLe_some mLe_nil)))) (e_L_law_J811 P (some q157) (some q159) v3 r158.2 _ hk  _ h hP)
                                                      · rw [if_neg hc] at h
                                                        refine ev_icmp_eq_f (q := 772) (t0 := 811) dL_law_769 (by decide) rfl hc ?_
                                                        refine ev_iconst (q := 773) (v := (0 : Int32)) dL_law_772 rfl (by decide) ?_
                                                        cases h
                                                        obtain ⟨hr1, hr2⟩ := hret _ hP
                                                        subst hr1
                                                        subst hr2
                                                        exact ev_zret dL_law_773 rfl (Or.inl rfl)
                                                    · rw [if_neg hc23] at h
                                                      by_cases hc24 : r1 &&& (31 : Int32) = 24
                                                      · rw [if_pos hc24] at h
                                                        refine ev_table_in (q := 774) (off := 742) dL_law_32 (by rw [hc24]; decide) (by rw [hc24]; decide) (by rw [hc24]; rfl) (by decide) ?_
                                                        refine ev_aload_n (q := 775) dL_law_774 rfl rfl ?_
                                                        refine ev_aload_n (q := 776) dL_law_775 rfl rfl ?_
                                                        refine ev_iload_n (q := 777) dL_law_776 rfl rfl ?_
                                                        refine ev_iconst (q := 778) (v := (1 : Int32)) dL_law_777 rfl (by decide) ?_
                                                        refine ev_iadd (q := 779) dL_law_778 rfl ?_
                                                        replace h := Option.bind_eq_some_iff.mp h; obtain ⟨r160, hr160, h⟩ := h
                                                        refine ev_mS dL_law_779 hr160 rfl ?_
                                                        replace h := Option.bind_eq_some_iff.mp h; obtain ⟨q162, hq162, h⟩ := h
                                                        obtain ⟨hxq162, fsq162, hkq162⟩ := kO_spec hq162
                                                        subst hxq162
                                                        replace h := Option.bind_eq_some_iff.mp h; obtain ⟨r161, hr161, h⟩ := h
                                                        refine ev_invV (M1 := M_X10_count) (as := [vi r160]) (fs := fsq162) (ci := 10) dL_law_780 rfl tw_798 cal_X10_count tw_799 tw_800 (by decide) rfl rfl (Nat.le_of_ble_eq_true rfl) hkq162 rfl (met_X10_count q162 r160 w _ hr161) ?_
                                                        refine ev_aload_n (q := 784) dL_law_783 rfl rfl ?_
                                                        refine ev_aload_n (q := 785) dL_law_784 rfl rfl ?_
                                                        refine ev_iload_n (q := 786) dL_law_785 rfl rfl ?_
                                                        refine ev_iconst (q := 787) (v := (1 : Int32)) dL_law_786 rfl (by decide) ?_
                                                        refine ev_iadd (q := 788) dL_law_787 rfl ?_
                                                        replace h := Option.bind_eq_some_iff.mp h; obtain ⟨r163, hr163, h⟩ := h
                                                        refine ev_mS dL_law_788 hr163 rfl ?_
                                                        replace h := Option.bind_eq_some_iff.mp h; obtain ⟨q165, hq165, h⟩ := h
                                                        obtain ⟨hxq165, fsq165, hkq165⟩ := kO_spec hq165
                                                        subst hxq165
                                                        replace h := Option.bind_eq_some_iff.mp h; obtain ⟨r164, hr164, h⟩ := h
                                                        refine ev_invV (M1 := M_X11_count) (as := [vi r163]) (fs := fsq165) (ci := 11) dL_law_789 rfl tw_1200 cal_X11_count tw_1201 tw_1202 (by decide) rfl rfl (Nat.le_of_ble_eq_true rfl) hkq165 rfl (met_X11_count q165 r163 w _ hr164) ?_
                                                        by_cases hc : r161 = r164
                                                        · rw [if_pos hc] at h
                                                          refine ev_icmp_eq_t (q := 811) dL_law_792 (by decide) hc ?_
                                                          exact ev_weak _ (mLe_some (mLe_some (mLe_some (mLe_some mLe_nil)))) (e_L_law_J811 P (some q162) (some q165) v3 w _ hk  _ h hP)
                                                        · rw [if_neg hc] at h
                                                          refine ev_icmp_eq_f (q := 795) (t0 := 811) dL_law_792 (by decide) rfl hc ?_
                                                          refine ev_iconst (q := 796) (v := (0 : Int32)) dL_law_795 rfl (by decide) ?_
                                                          cases h
                                                          obtain ⟨hr1, hr2⟩ := hret _ hP
                                                          subst hr1
                                                          subst hr2
                                                          exact ev_zret dL_law_796 rfl (Or.inl rfl)
                                                      · rw [if_neg hc24] at h
                                                        by_cases hc25 : r1 &&& (31 : Int32) = 25
                                                        · rw [if_pos hc25] at h
                                                          refine ev_table_in (q := 797) (off := 765) dL_law_32 (by rw [hc25]; decide) (by rw [hc25]; decide) (by rw [hc25]; rfl) (by decide) ?_
                                                          refine ev_aload_n (q := 798) dL_law_797 rfl rfl ?_
                                                          replace h := Option.bind_eq_some_iff.mp h; obtain ⟨q167, hq167, h⟩ := h
                                                          obtain ⟨hxq167, fsq167, hkq167⟩ := kO_spec hq167
                                                          subst hxq167
                                                          replace h := Option.bind_eq_some_iff.mp h; obtain ⟨r166, hr166, h⟩ := h
                                                          refine ev_invV (M1 := M_X10_digest) (as := []) (fs := fsq167) (ci := 10) dL_law_798 rfl tw_805 cal_X10_digest tw_806 tw_807 (by decide) rfl rfl (Nat.le_of_ble_eq_true rfl) hkq167 rfl (met_X10_digest q167  w _ hr166) ?_
                                                          refine ev_aload_n (q := 802) dL_law_801 rfl rfl ?_
                                                          replace h := Option.bind_eq_some_iff.mp h; obtain ⟨q169, hq169, h⟩ := h
                                                          obtain ⟨hxq169, fsq169, hkq169⟩ := kO_spec hq169
                                                          subst hxq169
                                                          replace h := Option.bind_eq_some_iff.mp h; obtain ⟨r168, hr168, h⟩ := h
                                                          refine ev_invV (M1 := M_X11_digest) (as := []) (fs := fsq169) (ci := 11) dL_law_802 rfl tw_1212 cal_X11_digest tw_1213 tw_1214 (by decide) rfl rfl (Nat.le_of_ble_eq_true rfl) hkq169 rfl (met_X11_digest q169  r166.2 _ hr168) ?_
                                                          refine ev_lcmp (q := 806) dL_law_805 rfl ?_
                                                          by_cases hc : lg_cmp r166.1 r168.1 = 0
                                                          · rw [if_pos hc] at h
                                                            refine ev_if_eq_t (q := 811) dL_law_806 (by decide) hc ?_
                                                            exact ev_weak _ (mLe_some (mLe_some (mLe_some (mLe_some mLe_nil)))) (e_L_law_J811 P (some q167) (some q169) v3 r168.2 _ hk  _ h hP)
                                                          · rw [if_neg hc] at h
                                                            refine ev_if_eq_f (q := 809) (t0 := 811) dL_law_806 (by decide) rfl hc ?_
                                                            refine ev_iconst (q := 810) (v := (0 : Int32)) dL_law_809 rfl (by decide) ?_
                                                            cases h
                                                            obtain ⟨hr1, hr2⟩ := hret _ hP
                                                            subst hr1
                                                            subst hr2
                                                            exact ev_zret dL_law_810 rfl (Or.inl rfl)
                                                        · rw [if_neg hc25] at h
                                                          refine ev_table_out (q := 811) dL_law_32 (by have z0 := mNe (z := 0) (by decide) hc0; have z1 := mNe (z := 1) (by decide) hc1; have z2 := mNe (z := 2) (by decide) hc2; have z3 := mNe (z := 3) (by decide) hc3; have z4 := mNe (z := 4) (by decide) hc4; have z5 := mNe (z := 5) (by decide) hc5; have z6 := mNe (z := 6) (by decide) hc6; have z7 := mNe (z := 7) (by decide) hc7; have z8 := mNe (z := 8) (by decide) hc8; have z9 := mNe (z := 9) (by decide) hc9; have z10 := mNe (z := 10) (by decide) hc10; have z11 := mNe (z := 11) (by decide) hc11; have z12 := mNe (z := 12) (by decide) hc12; have z13 := mNe (z := 13) (by decide) hc13; have z14 := mNe (z := 14) (by decide) hc14; have z15 := mNe (z := 15) (by decide) hc15; have z16 := mNe (z := 16) (by decide) hc16; have z17 := mNe (z := 17) (by decide) hc17; have z18 := mNe (z := 18) (by decide) hc18; have z19 := mNe (z := 19) (by decide) hc19; have z20 := mNe (z := 20) (by decide) hc20; have z21 := mNe (z := 21) (by decide) hc21; have z22 := mNe (z := 22) (by decide) hc22; have z23 := mNe (z := 23) (by decide) hc23; have z24 := mNe (z := 24) (by decide) hc24; have z25 := mNe (z := 25) (by decide) hc25; omega) (by decide) ?_
                                                          exact ev_weak _ (mLe_some (mLe_some (mLe_some (mLe_some mLe_nil)))) (e_L_law_J811 P v1 v2 v3 w _ hk  _ h hP)
def f_L_law (X : mXs) (w : mW) : Option (Int32 × mW) := Option.bind (some (w ++ [.inl (10, new_X10)])) fun w170 => Option.bind (f_X10_init w.length  w170) fun w171 => Option.bind (some (w171 ++ [.inl (11, new_X11)])) fun w172 => Option.bind (f_X11_init w171.length  w172) fun w173 => Option.bind (f_L_law_L18 X (some w.length) (some w171.length) mFuel (0 : Int32) w173) fun e174 => match e174 with | .inl y176 => some y176 | .inr y175 => some (((1 : Int32), y175))
set_option maxRecDepth 100000 in
set_option maxHeartbeats 4000000 in
theorem ev_L_law {X : mXs} (w : mW) (res : Int32 × mW) (h : f_L_law X w = some res) : mEv X M_L_law 9 (some (vi res.1)) res.2 0 [some (vx 0), none, none, none] [] w := by
  unfold f_L_law at h
  replace h := Option.bind_eq_some_iff.mp h; obtain ⟨w170, hw170, h⟩ := h
  cases hw170
  refine ev_new (ci := 10) (fs := new_X10) tyX10 dL_law_0 rfl rfl inm_X10 tyX10_ok tw_81 tw_82 tw_62 rfl new_X10_ok ?_
  refine ev_dup (q := 4) dL_law_3 rfl rfl ?_
  replace h := Option.bind_eq_some_iff.mp h; obtain ⟨w171, hw171, h⟩ := h
  refine ev_invI (M1 := M_X10_init) (as := []) dL_law_4 rfl tw_83 cal_X10_init tw_84 rfl rfl (by decide) rfl rfl (Nat.le_of_ble_eq_true rfl) (met_X10_init w.length  (w ++ [.inl (10, new_X10)]) _ hw171) ?_
  refine ev_astore_n (q := 8) dL_law_7 rfl (by decide) ?_
  replace h := Option.bind_eq_some_iff.mp h; obtain ⟨w172, hw172, h⟩ := h
  cases hw172
  refine ev_new (ci := 11) (fs := new_X11) tyX11 dL_law_8 rfl rfl inm_X11 tyX11_ok tw_822 tw_823 tw_68 rfl new_X11_ok ?_
  refine ev_dup (q := 12) dL_law_11 rfl rfl ?_
  replace h := Option.bind_eq_some_iff.mp h; obtain ⟨w173, hw173, h⟩ := h
  refine ev_invI (M1 := M_X11_init) (as := []) dL_law_12 rfl tw_824 cal_X11_init tw_825 rfl rfl (by decide) rfl rfl (Nat.le_of_ble_eq_true rfl) (met_X11_init w171.length  (w171 ++ [.inl (11, new_X11)]) _ hw173) ?_
  refine ev_astore_n (q := 16) dL_law_15 rfl (by decide) ?_
  refine ev_iconst (q := 17) (v := (0 : Int32)) dL_law_16 rfl (by decide) ?_
  refine ev_istore_n (q := 18) dL_law_17 rfl (by decide) ?_
  replace h := Option.bind_eq_some_iff.mp h; obtain ⟨e174, he174, h⟩ := h
  refine ev_weak _ (mLe_some (mLe_some (mLe_some (mLe_some mLe_nil)))) (e_L_law_L18 (fun z => e174 = z) (some w.length) (some w171.length) (fun y176 hq => ?_) (fun y175 hq => ?_) mFuel (0 : Int32) w173 _ he174 rfl)
  · subst hq
    dsimp only at h
    cases h
    exact ⟨rfl, rfl⟩
  · subst hq
    dsimp only at h
    refine ev_iconst (q := 818) (v := (1 : Int32)) dL_law_817 rfl (by decide) ?_
    cases h
    exact ev_zret dL_law_818 rfl (Or.inr rfl)
