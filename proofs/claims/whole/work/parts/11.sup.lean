def oC {α : Type} (o : Option Nat) (a : α) (b : Nat → α) : α := match o with
  | none => a
  | some x => b x
theorem mNe {x k : Int32} {z : Int} (hz : k.toInt = z) (h : ¬ x = k) : x.toInt ≠ z := fun e => h (Int32.toInt_inj.mp (e.trans hz.symm))
def kO (w : mW) (o : Option Nat) (ci : Nat) : Option Nat := match o with
  | none => none
  | some a => match w[a]? with
    | some (.inl c) => if c.1 = ci then some a else none
    | _ => none
theorem kO_spec {w : mW} {o : Option Nat} {ci q : Nat} (h : kO w o ci = some q) : o = some q ∧ ∃ fs : List mV, w[q]? = some (.inl (ci, fs)) := by
  unfold kO at h
  split at h
  · cases h
  · split at h
    · rename_i c hc
      split at h
      · rename_i hci
        cases h
        exact ⟨rfl, c.2, by rw [hc, ← hci]⟩
      · cases h
    · cases h
def mKind (i : Int32) : Option Int32 := if i.toNatClampNeg < 5 ∧ ¬ i < 0 then some (([116, 108, 119, 104, 109] : List Int32).getD i.toNatClampNeg 0) else none
theorem ev_bL {X : mXs} {M : mM} {d : Nat} {r : Option mV} {w' : mW} {pc q : Nat} {L : List (Option mV)} {st : List mV} {w : mW} {i v : Int32} (hd : decode M.2.1 pc = .ok (.baload, 1)) (h : mKind i = some v) (hq : pc + 1 = q) (kk : mEv X M d r w' q L (vi v :: st) w) : mEv X M d r w' pc L (vi i :: vx 2 :: st) w := by
  unfold mKind at h
  split at h
  · rename_i hi
    cases h
    exact ev_bld hd hq (vp_in_mk hi) rfl kk
  · cases h
abbrev tw_obji := tw_87
abbrev tw_mathi := tw_71
abbrev tw_objc := tw_88
abbrev M_X10_at : mM := (yX10_at, cX10_at, 2, (some .int))
theorem cal_X10_at : mCal M_X10_at 2 := ⟨tw_309, tw_62, ⟨by decide, by decide, by decide +kernel⟩, by decide⟩
abbrev M_X10_blank : mM := (yX10_blank, cX10_blank, 2, (some .int))
theorem cal_X10_blank : mCal M_X10_blank 0 := ⟨tw_298, tw_62, ⟨by decide, by decide, by decide +kernel⟩, by decide⟩
abbrev M_X10_cellAt : mM := (yX10_cellAt, cX10_cellAt, 3, (some .int))
theorem cal_X10_cellAt : mCal M_X10_cellAt 2 := ⟨tw_324, tw_62, ⟨by decide, by decide, by decide +kernel⟩, by decide⟩
abbrev M_X10_clear : mM := (yX10_clear, cX10_clear, 2, none)
theorem cal_X10_clear : mCal M_X10_clear 1 := ⟨tw_459, tw_62, ⟨by decide, by decide, by decide +kernel⟩, by decide⟩
abbrev M_X10_draw : mM := (yX10_draw, cX10_draw, 2, (some .int))
theorem cal_X10_draw : mCal M_X10_draw 2 := ⟨tw_779, tw_62, ⟨by decide, by decide, by decide +kernel⟩, by decide⟩
abbrev M_X10_everybody : mM := (yX10_everybody, cX10_everybody, 1, (some .int))
theorem cal_X10_everybody : mCal M_X10_everybody 0 := ⟨tw_700, tw_62, ⟨by decide, by decide, by decide +kernel⟩, by decide⟩
abbrev M_X10_forget : mM := (yX10_forget, cX10_forget, 2, (some .int))
theorem cal_X10_forget : mCal M_X10_forget 0 := ⟨tw_766, tw_62, ⟨by decide, by decide, by decide +kernel⟩, by decide⟩
abbrev M_X10_hasPort : mM := (yX10_hasPort, cX10_hasPort, 1, (some .boolean))
theorem cal_X10_hasPort : mCal M_X10_hasPort 0 := ⟨tw_657, tw_62, ⟨by decide, by decide, by decide +kernel⟩, by decide⟩
abbrev M_X10_isColumn : mM := (yX10_isColumn, cX10_isColumn, 1, (some .boolean))
theorem cal_X10_isColumn : mCal M_X10_isColumn 1 := ⟨tw_626, tw_62, ⟨by decide, by decide, by decide +kernel⟩, by decide⟩
abbrev M_X10_isOfKind : mM := (yX10_isOfKind, cX10_isOfKind, 2, (some .boolean))
theorem cal_X10_isOfKind : mCal M_X10_isOfKind 2 := ⟨tw_641, tw_62, ⟨by decide, by decide, by decide +kernel⟩, by decide⟩
abbrev M_X10_isSleeper : mM := (yX10_isSleeper, cX10_isSleeper, 2, (some .boolean))
theorem cal_X10_isSleeper : mCal M_X10_isSleeper 1 := ⟨tw_505, tw_62, ⟨by decide, by decide, by decide +kernel⟩, by decide⟩
abbrev M_X10_isTurn : mM := (yX10_isTurn, cX10_isTurn, 1, (some .boolean))
theorem cal_X10_isTurn : mCal M_X10_isTurn 1 := ⟨tw_427, tw_62, ⟨by decide, by decide, by decide +kernel⟩, by decide⟩
abbrev M_X10_nextSeed : mM := (yX10_nextSeed, cX10_nextSeed, 1, (some .int))
theorem cal_X10_nextSeed : mCal M_X10_nextSeed 1 := ⟨tw_773, tw_62, ⟨by decide, by decide, by decide +kernel⟩, by decide⟩
abbrev M_X10_put : mM := (yX10_put, cX10_put, 3, none)
theorem cal_X10_put : mCal M_X10_put 3 := ⟨tw_294, tw_62, ⟨by decide, by decide, by decide +kernel⟩, by decide⟩
abbrev M_X10_sum : mM := (yX10_sum, cX10_sum, 3, (some .int))
theorem cal_X10_sum : mCal M_X10_sum 1 := ⟨tw_804, tw_62, ⟨by decide, by decide, by decide +kernel⟩, by decide⟩
abbrev M_X10_tosserAt : mM := (yX10_tosserAt, cX10_tosserAt, 3, (some (.object "PancakePort$Tosser")))
theorem cal_X10_tosserAt : mCal M_X10_tosserAt 1 := ⟨tw_518, tw_62, ⟨by decide, by decide, by decide +kernel⟩, by decide⟩
abbrev M_X0_batter : mM := (yX0_batter, cX0_batter, 1, (some .int))
theorem cal_X0_batter : mCal M_X0_batter 0 := ⟨tw_583, tw_76, ⟨by decide, by decide, by decide +kernel⟩, by decide⟩
abbrev M_X0_kind : mM := (yX0_kind, cX0_kind, 1, (some .int))
theorem cal_X0_kind : mCal M_X0_kind 0 := ⟨tw_566, tw_76, ⟨by decide, by decide, by decide +kernel⟩, by decide⟩
abbrev M_X1_batter : mM := (yX1_batter, cX1_batter, 1, (some .int))
theorem cal_X1_batter : mCal M_X1_batter 0 := ⟨tw_586, tw_79, ⟨by decide, by decide, by decide +kernel⟩, by decide⟩
abbrev M_X1_kind : mM := (yX1_kind, cX1_kind, 1, (some .int))
theorem cal_X1_kind : mCal M_X1_kind 0 := ⟨tw_569, tw_79, ⟨by decide, by decide, by decide +kernel⟩, by decide⟩
abbrev M_X5_isWhole : mM := (yX5_isWhole, cX5_isWhole, 1, (some .boolean))
theorem cal_X5_isWhole : mCal M_X5_isWhole 0 := ⟨tw_444, tw_64, ⟨by decide, by decide, by decide +kernel⟩, by decide⟩
abbrev M_X5_takesAfterSleeper : mM := (yX5_takesAfterSleeper, cX5_takesAfterSleeper, 2, (some .boolean))
theorem cal_X5_takesAfterSleeper : mCal M_X5_takesAfterSleeper 1 := ⟨tw_329, tw_64, ⟨by decide, by decide, by decide +kernel⟩, by decide⟩
abbrev M_X5_takesAfterTosser : mM := (yX5_takesAfterTosser, cX5_takesAfterTosser, 2, (some .boolean))
theorem cal_X5_takesAfterTosser : mCal M_X5_takesAfterTosser 1 := ⟨tw_435, tw_64, ⟨by decide, by decide, by decide +kernel⟩, by decide⟩
abbrev M_X5_takesRow : mM := (yX5_takesRow, cX5_takesRow, 2, (some .boolean))
theorem cal_X5_takesRow : mCal M_X5_takesRow 1 := ⟨tw_317, tw_64, ⟨by decide, by decide, by decide +kernel⟩, by decide⟩
abbrev M_X7_batter : mM := (yX7_batter, cX7_batter, 1, (some .int))
theorem cal_X7_batter : mCal M_X7_batter 0 := ⟨tw_589, tw_78, ⟨by decide, by decide, by decide +kernel⟩, by decide⟩
abbrev M_X7_kind : mM := (yX7_kind, cX7_kind, 1, (some .int))
theorem cal_X7_kind : mCal M_X7_kind 0 := ⟨tw_572, tw_78, ⟨by decide, by decide, by decide +kernel⟩, by decide⟩
abbrev M_X8_batter : mM := (yX8_batter, cX8_batter, 1, (some .int))
theorem cal_X8_batter : mCal M_X8_batter 0 := ⟨tw_593, tw_75, ⟨by decide, by decide, by decide +kernel⟩, by decide⟩
abbrev M_X8_kind : mM := (yX8_kind, cX8_kind, 1, (some .int))
theorem cal_X8_kind : mCal M_X8_kind 0 := ⟨tw_576, tw_75, ⟨by decide, by decide, by decide +kernel⟩, by decide⟩
abbrev M_X9_batter : mM := (yX9_batter, cX9_batter, 1, (some .int))
theorem cal_X9_batter : mCal M_X9_batter 0 := ⟨tw_592, tw_77, ⟨by decide, by decide, by decide +kernel⟩, by decide⟩
abbrev M_X9_kind : mM := (yX9_kind, cX9_kind, 1, (some .int))
theorem cal_X9_kind : mCal M_X9_kind 0 := ⟨tw_575, tw_77, ⟨by decide, by decide, by decide +kernel⟩, by decide⟩
abbrev M_X11_batterOf : mM := (yX11_batterOf, cX11_batterOf, 1, (some .int))
theorem cal_X11_batterOf : mCal M_X11_batterOf 1 := ⟨tw_1067, tw_68, ⟨by decide, by decide, by decide +kernel⟩, by decide⟩
abbrev M_X11_blank : mM := (yX11_blank, cX11_blank, 2, (some .int))
theorem cal_X11_blank : mCal M_X11_blank 0 := ⟨tw_960, tw_68, ⟨by decide, by decide, by decide +kernel⟩, by decide⟩
abbrev M_X11_cellAt : mM := (yX11_cellAt, cX11_cellAt, 2, (some .int))
theorem cal_X11_cellAt : mCal M_X11_cellAt 1 := ⟨tw_982, tw_68, ⟨by decide, by decide, by decide +kernel⟩, by decide⟩
abbrev M_X11_copy : mM := (yX11_copy, cX11_copy, 3, none)
theorem cal_X11_copy : mCal M_X11_copy 2 := ⟨tw_1195, tw_68, ⟨by decide, by decide, by decide +kernel⟩, by decide⟩
abbrev M_X11_draw : mM := (yX11_draw, cX11_draw, 2, (some .int))
theorem cal_X11_draw : mCal M_X11_draw 1 := ⟨tw_1184, tw_68, ⟨by decide, by decide, by decide +kernel⟩, by decide⟩
abbrev M_X11_far : mM := (yX11_far, cX11_far, 2, (some .int))
theorem cal_X11_far : mCal M_X11_far 2 := ⟨tw_1032, tw_68, ⟨by decide, by decide, by decide +kernel⟩, by decide⟩
abbrev M_X11_forget : mM := (yX11_forget, cX11_forget, 2, (some .int))
theorem cal_X11_forget : mCal M_X11_forget 0 := ⟨tw_1175, tw_68, ⟨by decide, by decide, by decide +kernel⟩, by decide⟩
abbrev M_X11_in : mM := (yX11_in, cX11_in, 6, (some .boolean))
theorem cal_X11_in : mCal M_X11_in 3 := ⟨tw_956, tw_68, ⟨by decide, by decide, by decide +kernel⟩, by decide⟩
abbrev M_X11_isFreeFor : mM := (yX11_isFreeFor, cX11_isFreeFor, 5, (some .boolean))
theorem cal_X11_isFreeFor : mCal M_X11_isFreeFor 2 := ⟨tw_1052, tw_68, ⟨by decide, by decide, by decide +kernel⟩, by decide⟩
abbrev M_X11_kindBy : mM := (yX11_kindBy, cX11_kindBy, 1, (some .int))
theorem cal_X11_kindBy : mCal M_X11_kindBy 1 := ⟨tw_989, tw_68, ⟨by decide, by decide, by decide +kernel⟩, by decide⟩
abbrev M_X11_lacks : mM := (yX11_lacks, cX11_lacks, 1, (some .boolean))
theorem cal_X11_lacks : mCal M_X11_lacks 0 := ⟨tw_1107, tw_68, ⟨by decide, by decide, by decide +kernel⟩, by decide⟩
abbrev M_X11_ones : mM := (yX11_ones, cX11_ones, 3, (some .int))
theorem cal_X11_ones : mCal M_X11_ones 1 := ⟨tw_1078, tw_68, ⟨by decide, by decide, by decide +kernel⟩, by decide⟩
abbrev M_X11_open : mM := (yX11_open, cX11_open, 3, (some .int))
theorem cal_X11_open : mCal M_X11_open 0 := ⟨tw_1075, tw_68, ⟨by decide, by decide, by decide +kernel⟩, by decide⟩
abbrev M_X11_say : mM := (yX11_say, cX11_say, 3, none)
theorem cal_X11_say : mCal M_X11_say 1 := ⟨tw_1220, tw_68, ⟨by decide, by decide, by decide +kernel⟩, by decide⟩
abbrev M_X11_sumOf : mM := (yX11_sumOf, cX11_sumOf, 4, (some .int))
theorem cal_X11_sumOf : mCal M_X11_sumOf 1 := ⟨tw_1211, tw_68, ⟨by decide, by decide, by decide +kernel⟩, by decide⟩
abbrev M_J6_bitCount_0f7a4 : mM := (yJ6_bitCount_0f7a4, cJ6_bitCount_0f7a4, 1, (some .int))
theorem cal_J6_bitCount_0f7a4 : mCal M_J6_bitCount_0f7a4 1 := ⟨tw_608, tw_80, ⟨by decide, by decide, by decide +kernel⟩, by decide⟩
abbrev M_J0_coder_7d493 : mM := (yJ0_coder_7d493, cJ0_coder_7d493, 1, (some .byte))
theorem cal_J0_coder_7d493 : mCal M_J0_coder_7d493 0 := ⟨tw_356, tw_69, ⟨by decide, by decide, by decide +kernel⟩, by decide⟩
abbrev M_J0_isLatin1_aae02 : mM := (yJ0_isLatin1_aae02, cJ0_isLatin1_aae02, 1, (some .boolean))
theorem cal_J0_isLatin1_aae02 : mCal M_J0_isLatin1_aae02 0 := ⟨tw_346, tw_69, ⟨by decide, by decide, by decide +kernel⟩, by decide⟩
abbrev M_J1_canEncode_9a6ad : mM := (yJ1_canEncode_9a6ad, cJ1_canEncode_9a6ad, 1, (some .boolean))
theorem cal_J1_canEncode_9a6ad : mCal M_J1_canEncode_9a6ad 1 := ⟨tw_362, tw_70, ⟨by decide, by decide, by decide +kernel⟩, by decide⟩
abbrev M_J1_indexOfChar_4cfef : mM := (yJ1_indexOfChar_4cfef, cJ1_indexOfChar_4cfef, 6, (some .int))
theorem cal_J1_indexOfChar_4cfef : mCal M_J1_indexOfChar_4cfef 4 := ⟨tw_371, tw_70, ⟨by decide, by decide, by decide +kernel⟩, by decide⟩
abbrev M_X10_as : mM := (yX10_as, cX10_as, 4, (some .int))
theorem cal_X10_as : mCal M_X10_as 2 := ⟨tw_638, tw_62, ⟨by decide, by decide, by decide +kernel⟩, by decide⟩
abbrev M_X10_columnBy : mM := (yX10_columnBy, cX10_columnBy, 3, (some .int))
theorem cal_X10_columnBy : mCal M_X10_columnBy 2 := ⟨tw_623, tw_62, ⟨by decide, by decide, by decide +kernel⟩, by decide⟩
abbrev M_X10_copy : mM := (yX10_copy, cX10_copy, 3, none)
theorem cal_X10_copy : mCal M_X10_copy 2 := ⟨tw_455, tw_62, ⟨by decide, by decide, by decide +kernel⟩, by decide⟩
abbrev M_X10_count : mM := (yX10_count, cX10_count, 2, (some .int))
theorem cal_X10_count : mCal M_X10_count 1 := ⟨tw_801, tw_62, ⟨by decide, by decide, by decide +kernel⟩, by decide⟩
abbrev M_X10_isCell : mM := (yX10_isCell, cX10_isCell, 2, (some .boolean))
theorem cal_X10_isCell : mCal M_X10_isCell 1 := ⟨tw_653, tw_62, ⟨by decide, by decide, by decide +kernel⟩, by decide⟩
abbrev M_X10_isTakenByAnother : mM := (yX10_isTakenByAnother, cX10_isTakenByAnother, 4, (some .boolean))
theorem cal_X10_isTakenByAnother : mCal M_X10_isTakenByAnother 2 := ⟨tw_555, tw_62, ⟨by decide, by decide, by decide +kernel⟩, by decide⟩
abbrev M_X10_landing : mM := (yX10_landing, cX10_landing, 6, (some .int))
theorem cal_X10_landing : mCal M_X10_landing 3 := ⟨tw_522, tw_62, ⟨by decide, by decide, by decide +kernel⟩, by decide⟩
abbrev M_X10_stir : mM := (yX10_stir, cX10_stir, 2, (some .int))
theorem cal_X10_stir : mCal M_X10_stir 1 := ⟨tw_692, tw_62, ⟨by decide, by decide, by decide +kernel⟩, by decide⟩
abbrev M_X10_train : mM := (yX10_train, cX10_train, 5, (some .int))
theorem cal_X10_train : mCal M_X10_train 3 := ⟨tw_687, tw_62, ⟨by decide, by decide, by decide +kernel⟩, by decide⟩
abbrev M_X10_wind : mM := (yX10_wind, cX10_wind, 3, (some .int))
theorem cal_X10_wind : mCal M_X10_wind 1 := ⟨tw_669, tw_62, ⟨by decide, by decide, by decide +kernel⟩, by decide⟩
abbrev M_X0_spreads : mM := (yX0_spreads, cX0_spreads, 3, (some .boolean))
theorem cal_X0_spreads : mCal M_X0_spreads 2 := ⟨tw_534, tw_76, ⟨by decide, by decide, by decide +kernel⟩, by decide⟩
abbrev M_X2_wake : mM := (yX2_wake, cX2_wake, 4, none)
theorem cal_X2_wake : mCal M_X2_wake 1 := ⟨tw_677, tw_65, ⟨by decide, by decide, by decide +kernel⟩, by decide⟩
abbrev M_X3_init : mM := (yX3_init, cX3_init, 1, none)
theorem cal_X3_init : mCal M_X3_init 0 := ⟨tw_93, tw_63, ⟨by decide, by decide, by decide +kernel⟩, by decide⟩
abbrev M_X3_append : mM := (yX3_append, cX3_append, 2, none)
theorem cal_X3_append : mCal M_X3_append 1 := ⟨tw_291, tw_63, ⟨by decide, by decide, by decide +kernel⟩, by decide⟩
abbrev M_X4_init : mM := (yX4_init, cX4_init, 1, none)
theorem cal_X4_init : mCal M_X4_init 0 := ⟨tw_226, tw_67, ⟨by decide, by decide, by decide +kernel⟩, by decide⟩
abbrev M_X4_begin : mM := (yX4_begin, cX4_begin, 2, none)
theorem cal_X4_begin : mCal M_X4_begin 0 := ⟨tw_708, tw_67, ⟨by decide, by decide, by decide +kernel⟩, by decide⟩
abbrev M_X4_firstFor : mM := (yX4_firstFor, cX4_firstFor, 4, (some .int))
theorem cal_X4_firstFor : mCal M_X4_firstFor 1 := ⟨tw_733, tw_67, ⟨by decide, by decide, by decide +kernel⟩, by decide⟩
abbrev M_X4_leastPrice : mM := (yX4_leastPrice, cX4_leastPrice, 4, (some .int))
theorem cal_X4_leastPrice : mCal M_X4_leastPrice 1 := ⟨tw_725, tw_67, ⟨by decide, by decide, by decide +kernel⟩, by decide⟩
abbrev M_X4_offer : mM := (yX4_offer, cX4_offer, 5, none)
theorem cal_X4_offer : mCal M_X4_offer 3 := ⟨tw_715, tw_67, ⟨by decide, by decide, by decide +kernel⟩, by decide⟩
abbrev M_X4_tell : mM := (yX4_tell, cX4_tell, 3, (some .int))
theorem cal_X4_tell : mCal M_X4_tell 1 := ⟨tw_737, tw_67, ⟨by decide, by decide, by decide +kernel⟩, by decide⟩
abbrev M_X5_init : mM := (yX5_init, cX5_init, 1, none)
theorem cal_X5_init : mCal M_X5_init 0 := ⟨tw_111, tw_64, ⟨by decide, by decide, by decide +kernel⟩, by decide⟩
abbrev M_X5_takesColumn : mM := (yX5_takesColumn, cX5_takesColumn, 4, (some .boolean))
theorem cal_X5_takesColumn : mCal M_X5_takesColumn 1 := ⟨tw_321, tw_64, ⟨by decide, by decide, by decide +kernel⟩, by decide⟩
abbrev M_X5_takesEast : mM := (yX5_takesEast, cX5_takesEast, 2, (some .boolean))
theorem cal_X5_takesEast : mCal M_X5_takesEast 1 := ⟨tw_431, tw_64, ⟨by decide, by decide, by decide +kernel⟩, by decide⟩
abbrev M_X5_takesSouth : mM := (yX5_takesSouth, cX5_takesSouth, 2, (some .boolean))
theorem cal_X5_takesSouth : mCal M_X5_takesSouth 1 := ⟨tw_424, tw_64, ⟨by decide, by decide, by decide +kernel⟩, by decide⟩
abbrev M_X6_init : mM := (yX6_init, cX6_init, 1, none)
theorem cal_X6_init : mCal M_X6_init 0 := ⟨tw_156, tw_66, ⟨by decide, by decide, by decide +kernel⟩, by decide⟩
abbrev M_X6_add : mM := (yX6_add, cX6_add, 4, none)
theorem cal_X6_add : mCal M_X6_add 3 := ⟨tw_761, tw_66, ⟨by decide, by decide, by decide +kernel⟩, by decide⟩
abbrev M_X7_spreads : mM := (yX7_spreads, cX7_spreads, 3, (some .boolean))
theorem cal_X7_spreads : mCal M_X7_spreads 2 := ⟨tw_547, tw_78, ⟨by decide, by decide, by decide +kernel⟩, by decide⟩
abbrev M_X8_init : mM := (yX8_init, cX8_init, 1, none)
theorem cal_X8_init : mCal M_X8_init 0 := ⟨tw_471, tw_75, ⟨by decide, by decide, by decide +kernel⟩, by decide⟩
abbrev M_X8_spreads : mM := (yX8_spreads, cX8_spreads, 3, (some .boolean))
theorem cal_X8_spreads : mCal M_X8_spreads 2 := ⟨tw_550, tw_75, ⟨by decide, by decide, by decide +kernel⟩, by decide⟩
abbrev M_X9_spreads : mM := (yX9_spreads, cX9_spreads, 3, (some .boolean))
theorem cal_X9_spreads : mCal M_X9_spreads 2 := ⟨tw_543, tw_77, ⟨by decide, by decide, by decide +kernel⟩, by decide⟩
abbrev M_X11_init : mM := (yX11_init, cX11_init, 1, none)
theorem cal_X11_init : mCal M_X11_init 0 := ⟨tw_826, tw_68, ⟨by decide, by decide, by decide +kernel⟩, by decide⟩
abbrev M_X11_cellOf : mM := (yX11_cellOf, cX11_cellOf, 2, (some .int))
theorem cal_X11_cellOf : mCal M_X11_cellOf 2 := ⟨tw_1013, tw_68, ⟨by decide, by decide, by decide +kernel⟩, by decide⟩
abbrev M_X11_columnBy : mM := (yX11_columnBy, cX11_columnBy, 3, (some .int))
theorem cal_X11_columnBy : mCal M_X11_columnBy 2 := ⟨tw_1085, tw_68, ⟨by decide, by decide, by decide +kernel⟩, by decide⟩
abbrev M_X11_countOf : mM := (yX11_countOf, cX11_countOf, 2, (some .int))
theorem cal_X11_countOf : mCal M_X11_countOf 1 := ⟨tw_1207, tw_68, ⟨by decide, by decide, by decide +kernel⟩, by decide⟩
abbrev M_X11_image : mM := (yX11_image, cX11_image, 1, (some .int))
theorem cal_X11_image : mCal M_X11_image 0 := ⟨tw_1192, tw_68, ⟨by decide, by decide, by decide +kernel⟩, by decide⟩
abbrev M_X11_isCell : mM := (yX11_isCell, cX11_isCell, 1, (some .boolean))
theorem cal_X11_isCell : mCal M_X11_isCell 1 := ⟨tw_1005, tw_68, ⟨by decide, by decide, by decide +kernel⟩, by decide⟩
abbrev M_X11_isNew : mM := (yX11_isNew, cX11_isNew, 4, (some .boolean))
theorem cal_X11_isNew : mCal M_X11_isNew 1 := ⟨tw_978, tw_68, ⟨by decide, by decide, by decide +kernel⟩, by decide⟩
abbrev M_X11_isSleeper : mM := (yX11_isSleeper, cX11_isSleeper, 2, (some .boolean))
theorem cal_X11_isSleeper : mCal M_X11_isSleeper 1 := ⟨tw_1040, tw_68, ⟨by decide, by decide, by decide +kernel⟩, by decide⟩
abbrev M_X11_isTosser : mM := (yX11_isTosser, cX11_isTosser, 2, (some .boolean))
theorem cal_X11_isTosser : mCal M_X11_isTosser 1 := ⟨tw_1002, tw_68, ⟨by decide, by decide, by decide +kernel⟩, by decide⟩
abbrev M_X11_isTosserLetter : mM := (yX11_isTosserLetter, cX11_isTosserLetter, 4, (some .boolean))
theorem cal_X11_isTosserLetter : mCal M_X11_isTosserLetter 1 := ⟨tw_986, tw_68, ⟨by decide, by decide, by decide +kernel⟩, by decide⟩
abbrev M_X11_letter : mM := (yX11_letter, cX11_letter, 2, (some .int))
theorem cal_X11_letter : mCal M_X11_letter 1 := ⟨tw_952, tw_68, ⟨by decide, by decide, by decide +kernel⟩, by decide⟩
abbrev M_X11_morning : mM := (yX11_morning, cX11_morning, 3, (some .int))
theorem cal_X11_morning : mCal M_X11_morning 0 := ⟨tw_1111, tw_68, ⟨by decide, by decide, by decide +kernel⟩, by decide⟩
abbrev M_X11_priceOf : mM := (yX11_priceOf, cX11_priceOf, 2, (some .int))
theorem cal_X11_priceOf : mCal M_X11_priceOf 1 := ⟨tw_1143, tw_68, ⟨by decide, by decide, by decide +kernel⟩, by decide⟩
abbrev M_X11_reaches : mM := (yX11_reaches, cX11_reaches, 6, (some .boolean))
theorem cal_X11_reaches : mCal M_X11_reaches 3 := ⟨tw_1029, tw_68, ⟨by decide, by decide, by decide +kernel⟩, by decide⟩
abbrev M_X11_restore : mM := (yX11_restore, cX11_restore, 1, (some .int))
theorem cal_X11_restore : mCal M_X11_restore 0 := ⟨tw_1199, tw_68, ⟨by decide, by decide, by decide +kernel⟩, by decide⟩
abbrev M_X11_stir : mM := (yX11_stir, cX11_stir, 2, (some .int))
theorem cal_X11_stir : mCal M_X11_stir 1 := ⟨tw_1123, tw_68, ⟨by decide, by decide, by decide +kernel⟩, by decide⟩
abbrev M_X11_wind : mM := (yX11_wind, cX11_wind, 3, (some .int))
theorem cal_X11_wind : mCal M_X11_wind 1 := ⟨tw_1102, tw_68, ⟨by decide, by decide, by decide +kernel⟩, by decide⟩
abbrev M_J0_length_8abf5 : mM := (yJ0_length_8abf5, cJ0_length_8abf5, 1, (some .int))
theorem cal_J0_length_8abf5 : mCal M_J0_length_8abf5 0 := ⟨tw_352, tw_69, ⟨by decide, by decide, by decide +kernel⟩, by decide⟩
abbrev M_J1_indexOf_4cfef : mM := (yJ1_indexOf_4cfef, cJ1_indexOf_4cfef, 4, (some .int))
theorem cal_J1_indexOf_4cfef : mCal M_J1_indexOf_4cfef 4 := ⟨tw_359, tw_70, ⟨by decide, by decide, by decide +kernel⟩, by decide⟩
abbrev M_X10_canLandAt : mM := (yX10_canLandAt, cX10_canLandAt, 4, (some .boolean))
theorem cal_X10_canLandAt : mCal M_X10_canLandAt 2 := ⟨tw_753, tw_62, ⟨by decide, by decide, by decide +kernel⟩, by decide⟩
abbrev M_X10_isToss : mM := (yX10_isToss, cX10_isToss, 3, (some .boolean))
theorem cal_X10_isToss : mCal M_X10_isToss 2 := ⟨tw_649, tw_62, ⟨by decide, by decide, by decide +kernel⟩, by decide⟩
abbrev M_X10_letter : mM := (yX10_letter, cX10_letter, 2, (some .int))
theorem cal_X10_letter : mCal M_X10_letter 1 := ⟨tw_287, tw_62, ⟨by decide, by decide, by decide +kernel⟩, by decide⟩
abbrev M_X10_morning : mM := (yX10_morning, cX10_morning, 2, (some .int))
theorem cal_X10_morning : mCal M_X10_morning 0 := ⟨tw_673, tw_62, ⟨by decide, by decide, by decide +kernel⟩, by decide⟩
abbrev M_X10_mostLeft : mM := (yX10_mostLeft, cX10_mostLeft, 6, (some .int))
theorem cal_X10_mostLeft : mCal M_X10_mostLeft 2 := ⟨tw_632, tw_62, ⟨by decide, by decide, by decide +kernel⟩, by decide⟩
abbrev M_X10_move : mM := (yX10_move, cX10_move, 4, (some .int))
theorem cal_X10_move : mCal M_X10_move 2 := ⟨tw_683, tw_62, ⟨by decide, by decide, by decide +kernel⟩, by decide⟩
abbrev M_X10_see : mM := (yX10_see, cX10_see, 4, (some .int))
theorem cal_X10_see : mCal M_X10_see 3 := ⟨tw_757, tw_62, ⟨by decide, by decide, by decide +kernel⟩, by decide⟩
abbrev M_X0_init : mM := (yX0_init, cX0_init, 1, none)
theorem cal_X0_init : mCal M_X0_init 0 := ⟨tw_468, tw_76, ⟨by decide, by decide, by decide +kernel⟩, by decide⟩
abbrev M_X1_spreads : mM := (yX1_spreads, cX1_spreads, 3, (some .boolean))
theorem cal_X1_spreads : mCal M_X1_spreads 2 := ⟨tw_540, tw_79, ⟨by decide, by decide, by decide +kernel⟩, by decide⟩
abbrev M_X2_init : mM := (yX2_init, cX2_init, 1, none)
theorem cal_X2_init : mCal M_X2_init 0 := ⟨tw_150, tw_65, ⟨by decide, by decide, by decide +kernel⟩, by decide⟩
abbrev M_X2_begin : mM := (yX2_begin, cX2_begin, 2, none)
theorem cal_X2_begin : mCal M_X2_begin 1 := ⟨tw_452, tw_65, ⟨by decide, by decide, by decide +kernel⟩, by decide⟩
abbrev M_X4_choose : mM := (yX4_choose, cX4_choose, 5, none)
theorem cal_X4_choose : mCal M_X4_choose 1 := ⟨tw_729, tw_67, ⟨by decide, by decide, by decide +kernel⟩, by decide⟩
abbrev M_X4_solve : mM := (yX4_solve, cX4_solve, 3, none)
theorem cal_X4_solve : mCal M_X4_solve 1 := ⟨tw_721, tw_67, ⟨by decide, by decide, by decide +kernel⟩, by decide⟩
abbrev M_X6_allows : mM := (yX6_allows, cX6_allows, 5, (some .boolean))
theorem cal_X6_allows : mCal M_X6_allows 2 := ⟨tw_619, tw_66, ⟨by decide, by decide, by decide +kernel⟩, by decide⟩
abbrev M_X6_takeFrom : mM := (yX6_takeFrom, cX6_takeFrom, 2, none)
theorem cal_X6_takeFrom : mCal M_X6_takeFrom 1 := ⟨tw_792, tw_66, ⟨by decide, by decide, by decide +kernel⟩, by decide⟩
abbrev M_X7_init : mM := (yX7_init, cX7_init, 1, none)
theorem cal_X7_init : mCal M_X7_init 0 := ⟨tw_485, tw_78, ⟨by decide, by decide, by decide +kernel⟩, by decide⟩
abbrev M_X9_init : mM := (yX9_init, cX9_init, 1, none)
theorem cal_X9_init : mCal M_X9_init 0 := ⟨tw_478, tw_77, ⟨by decide, by decide, by decide +kernel⟩, by decide⟩
abbrev M_X11_as : mM := (yX11_as, cX11_as, 4, (some .int))
theorem cal_X11_as : mCal M_X11_as 2 := ⟨tw_1093, tw_68, ⟨by decide, by decide, by decide +kernel⟩, by decide⟩
abbrev M_X11_count : mM := (yX11_count, cX11_count, 2, (some .int))
theorem cal_X11_count : mCal M_X11_count 1 := ⟨tw_1203, tw_68, ⟨by decide, by decide, by decide +kernel⟩, by decide⟩
abbrev M_X11_isSleeperLetter : mM := (yX11_isSleeperLetter, cX11_isSleeperLetter, 3, (some .boolean))
theorem cal_X11_isSleeperLetter : mCal M_X11_isSleeperLetter 1 := ⟨tw_972, tw_68, ⟨by decide, by decide, by decide +kernel⟩, by decide⟩
abbrev M_X11_landsBy : mM := (yX11_landsBy, cX11_landsBy, 4, (some .int))
theorem cal_X11_landsBy : mCal M_X11_landsBy 3 := ⟨tw_1010, tw_68, ⟨by decide, by decide, by decide +kernel⟩, by decide⟩
abbrev M_X11_layRow : mM := (yX11_layRow, cX11_layRow, 5, none)
theorem cal_X11_layRow : mCal M_X11_layRow 1 := ⟨tw_1147, tw_68, ⟨by decide, by decide, by decide +kernel⟩, by decide⟩
abbrev M_X11_move : mM := (yX11_move, cX11_move, 4, (some .int))
theorem cal_X11_move : mCal M_X11_move 2 := ⟨tw_1115, tw_68, ⟨by decide, by decide, by decide +kernel⟩, by decide⟩
abbrev M_X11_see : mM := (yX11_see, cX11_see, 4, (some .int))
theorem cal_X11_see : mCal M_X11_see 3 := ⟨tw_1171, tw_68, ⟨by decide, by decide, by decide +kernel⟩, by decide⟩
abbrev M_X11_train : mM := (yX11_train, cX11_train, 5, (some .int))
theorem cal_X11_train : mCal M_X11_train 3 := ⟨tw_1119, tw_68, ⟨by decide, by decide, by decide +kernel⟩, by decide⟩
abbrev M_X11_turnsOf : mM := (yX11_turnsOf, cX11_turnsOf, 6, (some .int))
theorem cal_X11_turnsOf : mCal M_X11_turnsOf 1 := ⟨tw_1082, tw_68, ⟨by decide, by decide, by decide +kernel⟩, by decide⟩
abbrev M_J0_indexOf_7cf53 : mM := (yJ0_indexOf_7cf53, cJ0_indexOf_7cf53, 3, (some .int))
theorem cal_J0_indexOf_7cf53 : mCal M_J0_indexOf_7cf53 2 := ⟨tw_342, tw_69, ⟨by decide, by decide, by decide +kernel⟩, by decide⟩
abbrev M_X10_init : mM := (yX10_init, cX10_init, 1, none)
theorem cal_X10_init : mCal M_X10_init 0 := ⟨tw_85, tw_62, ⟨by decide, by decide, by decide +kernel⟩, by decide⟩
abbrev M_X10_addChances : mM := (yX10_addChances, cX10_addChances, 6, none)
theorem cal_X10_addChances : mCal M_X10_addChances 2 := ⟨tw_527, tw_62, ⟨by decide, by decide, by decide +kernel⟩, by decide⟩
abbrev M_X10_crowdUnder : mM := (yX10_crowdUnder, cX10_crowdUnder, 9, (some .int))
theorem cal_X10_crowdUnder : mCal M_X10_crowdUnder 3 := ⟨tw_605, tw_62, ⟨by decide, by decide, by decide +kernel⟩, by decide⟩
abbrev M_X10_lands : mM := (yX10_lands, cX10_lands, 3, (some .int))
theorem cal_X10_lands : mCal M_X10_lands 2 := ⟨tw_645, tw_62, ⟨by decide, by decide, by decide +kernel⟩, by decide⟩
abbrev M_X10_tellingAim : mM := (yX10_tellingAim, cX10_tellingAim, 5, (some .int))
theorem cal_X10_tellingAim : mCal M_X10_tellingAim 1 := ⟨tw_629, tw_62, ⟨by decide, by decide, by decide +kernel⟩, by decide⟩
abbrev M_X10_who : mM := (yX10_who, cX10_who, 4, (some .int))
theorem cal_X10_who : mCal M_X10_who 1 := ⟨tw_749, tw_62, ⟨by decide, by decide, by decide +kernel⟩, by decide⟩
abbrev M_X1_init : mM := (yX1_init, cX1_init, 1, none)
theorem cal_X1_init : mCal M_X1_init 0 := ⟨tw_492, tw_79, ⟨by decide, by decide, by decide +kernel⟩, by decide⟩
abbrev M_X2_takeFrom : mM := (yX2_takeFrom, cX2_takeFrom, 2, none)
theorem cal_X2_takeFrom : mCal M_X2_takeFrom 1 := ⟨tw_788, tw_65, ⟨by decide, by decide, by decide +kernel⟩, by decide⟩
abbrev M_X6_turnsOf : mM := (yX6_turnsOf, cX6_turnsOf, 4, (some .int))
theorem cal_X6_turnsOf : mCal M_X6_turnsOf 1 := ⟨tw_615, tw_66, ⟨by decide, by decide, by decide +kernel⟩, by decide⟩
abbrev M_X11_aimOf : mM := (yX11_aimOf, cX11_aimOf, 10, (some .int))
theorem cal_X11_aimOf : mCal M_X11_aimOf 1 := ⟨tw_1089, tw_68, ⟨by decide, by decide, by decide +kernel⟩, by decide⟩
abbrev M_X11_coversCell : mM := (yX11_coversCell, cX11_coversCell, 6, (some .boolean))
theorem cal_X11_coversCell : mCal M_X11_coversCell 4 := ⟨tw_1026, tw_68, ⟨by decide, by decide, by decide +kernel⟩, by decide⟩
abbrev M_X11_faultOf : mM := (yX11_faultOf, cX11_faultOf, 2, (some .int))
theorem cal_X11_faultOf : mCal M_X11_faultOf 0 := ⟨tw_968, tw_68, ⟨by decide, by decide, by decide +kernel⟩, by decide⟩
abbrev M_X11_lands : mM := (yX11_lands, cX11_lands, 3, (some .int))
theorem cal_X11_lands : mCal M_X11_lands 2 := ⟨tw_998, tw_68, ⟨by decide, by decide, by decide +kernel⟩, by decide⟩
abbrev M_X11_whoOf : mM := (yX11_whoOf, cX11_whoOf, 5, (some .int))
theorem cal_X11_whoOf : mCal M_X11_whoOf 1 := ⟨tw_1167, tw_68, ⟨by decide, by decide, by decide +kernel⟩, by decide⟩
abbrev M_J0_indexOf_0f7a4 : mM := (yJ0_indexOf_0f7a4, cJ0_indexOf_0f7a4, 2, (some .int))
theorem cal_J0_indexOf_0f7a4 : mCal M_J0_indexOf_0f7a4 1 := ⟨tw_338, tw_69, ⟨by decide, by decide, by decide +kernel⟩, by decide⟩
abbrev M_X10_countChances : mM := (yX10_countChances, cX10_countChances, 5, none)
theorem cal_X10_countChances : mCal M_X10_countChances 0 := ⟨tw_513, tw_62, ⟨by decide, by decide, by decide +kernel⟩, by decide⟩
abbrev M_X10_covers : mM := (yX10_covers, cX10_covers, 3, (some .int))
theorem cal_X10_covers : mCal M_X10_covers 2 := ⟨tw_661, tw_62, ⟨by decide, by decide, by decide +kernel⟩, by decide⟩
abbrev M_X10_freshOf : mM := (yX10_freshOf, cX10_freshOf, 3, (some .int))
theorem cal_X10_freshOf : mCal M_X10_freshOf 2 := ⟨tw_601, tw_62, ⟨by decide, by decide, by decide +kernel⟩, by decide⟩
abbrev M_X10_image : mM := (yX10_image, cX10_image, 1, (some .int))
theorem cal_X10_image : mCal M_X10_image 0 := ⟨tw_784, tw_62, ⟨by decide, by decide, by decide +kernel⟩, by decide⟩
abbrev M_X10_odds : mM := (yX10_odds, cX10_odds, 6, (some .int))
theorem cal_X10_odds : mCal M_X10_odds 3 := ⟨tw_745, tw_62, ⟨by decide, by decide, by decide +kernel⟩, by decide⟩
abbrev M_X10_planFor : mM := (yX10_planFor, cX10_planFor, 7, none)
theorem cal_X10_planFor : mCal M_X10_planFor 1 := ⟨tw_704, tw_62, ⟨by decide, by decide, by decide +kernel⟩, by decide⟩
abbrev M_X10_restore : mM := (yX10_restore, cX10_restore, 1, (some .int))
theorem cal_X10_restore : mCal M_X10_restore 0 := ⟨tw_797, tw_62, ⟨by decide, by decide, by decide +kernel⟩, by decide⟩
abbrev M_X10_seasons : mM := (yX10_seasons, cX10_seasons, 11, (some .int))
theorem cal_X10_seasons : mCal M_X10_seasons 3 := ⟨tw_770, tw_62, ⟨by decide, by decide, by decide +kernel⟩, by decide⟩
abbrev M_X10_toss : mM := (yX10_toss, cX10_toss, 5, (some .int))
theorem cal_X10_toss : mCal M_X10_toss 2 := ⟨tw_665, tw_62, ⟨by decide, by decide, by decide +kernel⟩, by decide⟩
abbrev M_X10_tosserOf : mM := (yX10_tosserOf, cX10_tosserOf, 1, (some (.object "PancakePort$Tosser")))
theorem cal_X10_tosserOf : mCal M_X10_tosserOf 1 := ⟨tw_463, tw_62, ⟨by decide, by decide, by decide +kernel⟩, by decide⟩
abbrev M_X5_takesKind : mM := (yX5_takesKind, cX5_takesKind, 3, (some .boolean))
theorem cal_X5_takesKind : mCal M_X5_takesKind 1 := ⟨tw_333, tw_64, ⟨by decide, by decide, by decide +kernel⟩, by decide⟩
abbrev M_X11_coversOf : mM := (yX11_coversOf, cX11_coversOf, 6, (some .int))
theorem cal_X11_coversOf : mCal M_X11_coversOf 3 := ⟨tw_1022, tw_68, ⟨by decide, by decide, by decide +kernel⟩, by decide⟩
abbrev M_X11_fault : mM := (yX11_fault, cX11_fault, 1, (some .int))
theorem cal_X11_fault : mCal M_X11_fault 0 := ⟨tw_964, tw_68, ⟨by decide, by decide, by decide +kernel⟩, by decide⟩
abbrev M_X11_odds : mM := (yX11_odds, cX11_odds, 6, (some .int))
theorem cal_X11_odds : mCal M_X11_odds 3 := ⟨tw_1159, tw_68, ⟨by decide, by decide, by decide +kernel⟩, by decide⟩
abbrev M_X11_port : mM := (yX11_port, cX11_port, 3, (some .int))
theorem cal_X11_port : mCal M_X11_port 0 := ⟨tw_994, tw_68, ⟨by decide, by decide, by decide +kernel⟩, by decide⟩
abbrev M_X11_tossesOver : mM := (yX11_tossesOver, cX11_tossesOver, 5, (some .int))
theorem cal_X11_tossesOver : mCal M_X11_tossesOver 1 := ⟨tw_1056, tw_68, ⟨by decide, by decide, by decide +kernel⟩, by decide⟩
abbrev M_X11_who : mM := (yX11_who, cX11_who, 2, (some .int))
theorem cal_X11_who : mCal M_X11_who 1 := ⟨tw_1163, tw_68, ⟨by decide, by decide, by decide +kernel⟩, by decide⟩
abbrev M_X10_all : mM := (yX10_all, cX10_all, 3, (some .int))
theorem cal_X10_all : mCal M_X10_all 1 := ⟨tw_696, tw_62, ⟨by decide, by decide, by decide +kernel⟩, by decide⟩
abbrev M_X10_bestAimOf : mM := (yX10_bestAimOf, cX10_bestAimOf, 6, (some .int))
theorem cal_X10_bestAimOf : mCal M_X10_bestAimOf 1 := ⟨tw_597, tw_62, ⟨by decide, by decide, by decide +kernel⟩, by decide⟩
abbrev M_X10_bestPlaceFor : mM := (yX10_bestPlaceFor, cX10_bestPlaceFor, 6, (some .int))
theorem cal_X10_bestPlaceFor : mCal M_X10_bestPlaceFor 1 := ⟨tw_509, tw_62, ⟨by decide, by decide, by decide +kernel⟩, by decide⟩
abbrev M_X10_nights : mM := (yX10_nights, cX10_nights, 2, (some .int))
theorem cal_X10_nights : mCal M_X10_nights 0 := ⟨tw_741, tw_62, ⟨by decide, by decide, by decide +kernel⟩, by decide⟩
abbrev M_X10_settle : mM := (yX10_settle, cX10_settle, 2, none)
theorem cal_X10_settle : mCal M_X10_settle 0 := ⟨tw_448, tw_62, ⟨by decide, by decide, by decide +kernel⟩, by decide⟩
abbrev M_X5_takes : mM := (yX5_takes, cX5_takes, 2, (some .boolean))
theorem cal_X5_takes : mCal M_X5_takes 1 := ⟨tw_313, tw_64, ⟨by decide, by decide, by decide +kernel⟩, by decide⟩
abbrev M_X11_covers : mM := (yX11_covers, cX11_covers, 3, (some .int))
theorem cal_X11_covers : mCal M_X11_covers 2 := ⟨tw_1018, tw_68, ⟨by decide, by decide, by decide +kernel⟩, by decide⟩
abbrev M_X11_layLeast : mM := (yX11_layLeast, cX11_layLeast, 6, none)
theorem cal_X11_layLeast : mCal M_X11_layLeast 0 := ⟨tw_1138, tw_68, ⟨by decide, by decide, by decide +kernel⟩, by decide⟩
abbrev M_X11_lieOf : mM := (yX11_lieOf, cX11_lieOf, 6, (some .int))
theorem cal_X11_lieOf : mCal M_X11_lieOf 1 := ⟨tw_1048, tw_68, ⟨by decide, by decide, by decide +kernel⟩, by decide⟩
abbrev M_X11_mostOf : mM := (yX11_mostOf, cX11_mostOf, 7, (some .int))
theorem cal_X11_mostOf : mCal M_X11_mostOf 2 := ⟨tw_1071, tw_68, ⟨by decide, by decide, by decide +kernel⟩, by decide⟩
abbrev M_X11_seasons : mM := (yX11_seasons, cX11_seasons, 10, (some .int))
theorem cal_X11_seasons : mCal M_X11_seasons 3 := ⟨tw_1179, tw_68, ⟨by decide, by decide, by decide +kernel⟩, by decide⟩
abbrev M_X11_toss : mM := (yX11_toss, cX11_toss, 5, (some .int))
theorem cal_X11_toss : mCal M_X11_toss 2 := ⟨tw_1098, tw_68, ⟨by decide, by decide, by decide +kernel⟩, by decide⟩
abbrev M_X10_digestOfPlans : mM := (yX10_digestOfPlans, cX10_digestOfPlans, 6, (some .long))
theorem cal_X10_digestOfPlans : mCal M_X10_digestOfPlans 1 := ⟨tw_818, tw_62, ⟨by decide, by decide, by decide +kernel⟩, by decide⟩
abbrev M_X10_sleeper : mM := (yX10_sleeper, cX10_sleeper, 3, (some .int))
theorem cal_X10_sleeper : mCal M_X10_sleeper 2 := ⟨tw_501, tw_62, ⟨by decide, by decide, by decide +kernel⟩, by decide⟩
abbrev M_X10_tosser : mM := (yX10_tosser, cX10_tosser, 4, (some .int))
theorem cal_X10_tosser : mCal M_X10_tosser 2 := ⟨tw_559, tw_62, ⟨by decide, by decide, by decide +kernel⟩, by decide⟩
abbrev M_X5_read : mM := (yX5_read, cX5_read, 4, (some .int))
theorem cal_X5_read : mCal M_X5_read 1 := ⟨tw_306, tw_64, ⟨by decide, by decide, by decide +kernel⟩, by decide⟩
abbrev M_X11_allOf : mM := (yX11_allOf, cX11_allOf, 3, (some .int))
theorem cal_X11_allOf : mCal M_X11_allOf 1 := ⟨tw_1134, tw_68, ⟨by decide, by decide, by decide +kernel⟩, by decide⟩
abbrev M_X11_nightsOf : mM := (yX11_nightsOf, cX11_nightsOf, 2, (some .int))
theorem cal_X11_nightsOf : mCal M_X11_nightsOf 0 := ⟨tw_1155, tw_68, ⟨by decide, by decide, by decide +kernel⟩, by decide⟩
abbrev M_X11_tellSleeper : mM := (yX11_tellSleeper, cX11_tellSleeper, 3, (some .int))
theorem cal_X11_tellSleeper : mCal M_X11_tellSleeper 2 := ⟨tw_1044, tw_68, ⟨by decide, by decide, by decide +kernel⟩, by decide⟩
abbrev M_X11_tellTosser : mM := (yX11_tellTosser, cX11_tellTosser, 3, (some .int))
theorem cal_X11_tellTosser : mCal M_X11_tellTosser 2 := ⟨tw_1064, tw_68, ⟨by decide, by decide, by decide +kernel⟩, by decide⟩
abbrev M_X10_digest : mM := (yX10_digest, cX10_digest, 5, (some .long))
theorem cal_X10_digest : mCal M_X10_digest 0 := ⟨tw_808, tw_62, ⟨by decide, by decide, by decide +kernel⟩, by decide⟩
abbrev M_X10_fault : mM := (yX10_fault, cX10_fault, 1, (some .int))
theorem cal_X10_fault : mCal M_X10_fault 0 := ⟨tw_302, tw_62, ⟨by decide, by decide, by decide +kernel⟩, by decide⟩
abbrev M_X10_port : mM := (yX10_port, cX10_port, 1, (some .int))
theorem cal_X10_port : mCal M_X10_port 0 := ⟨tw_440, tw_62, ⟨by decide, by decide, by decide +kernel⟩, by decide⟩
abbrev M_X11_all : mM := (yX11_all, cX11_all, 2, (some .int))
theorem cal_X11_all : mCal M_X11_all 1 := ⟨tw_1128, tw_68, ⟨by decide, by decide, by decide +kernel⟩, by decide⟩
abbrev M_X11_nights : mM := (yX11_nights, cX11_nights, 1, (some .int))
theorem cal_X11_nights : mCal M_X11_nights 0 := ⟨tw_1151, tw_68, ⟨by decide, by decide, by decide +kernel⟩, by decide⟩
abbrev M_X11_sayPort : mM := (yX11_sayPort, cX11_sayPort, 2, none)
theorem cal_X11_sayPort : mCal M_X11_sayPort 0 := ⟨tw_1229, tw_68, ⟨by decide, by decide, by decide +kernel⟩, by decide⟩
abbrev M_X11_sayTosser : mM := (yX11_sayTosser, cX11_sayTosser, 3, none)
theorem cal_X11_sayTosser : mCal M_X11_sayTosser 1 := ⟨tw_1225, tw_68, ⟨by decide, by decide, by decide +kernel⟩, by decide⟩
abbrev M_X11_sleeper : mM := (yX11_sleeper, cX11_sleeper, 3, (some .int))
theorem cal_X11_sleeper : mCal M_X11_sleeper 2 := ⟨tw_1036, tw_68, ⟨by decide, by decide, by decide +kernel⟩, by decide⟩
abbrev M_X11_tosser : mM := (yX11_tosser, cX11_tosser, 3, (some .int))
theorem cal_X11_tosser : mCal M_X11_tosser 2 := ⟨tw_1060, tw_68, ⟨by decide, by decide, by decide +kernel⟩, by decide⟩
abbrev M_X11_digest : mM := (yX11_digest, cX11_digest, 3, (some .long))
theorem cal_X11_digest : mCal M_X11_digest 0 := ⟨tw_1215, tw_68, ⟨by decide, by decide, by decide +kernel⟩, by decide⟩
theorem inm_X0 : ∀ w ∈ u_ws RX0 TX0 0, w ∈ mWS := fun _ h => by cases h
def new_X0 : List mV := []
theorem new_X0_ok (g : mG) (j : Nat) (h : j < 0) : defaultValue (tyX0 j) = vp_V (new_X0.map (mt g)) j := absurd h (Nat.not_lt_zero j)
theorem inm_X1 : ∀ w ∈ u_ws RX1 TX1 0, w ∈ mWS := fun _ h => by cases h
def new_X1 : List mV := []
theorem new_X1_ok (g : mG) (j : Nat) (h : j < 0) : defaultValue (tyX1 j) = vp_V (new_X1.map (mt g)) j := absurd h (Nat.not_lt_zero j)
set_option maxRecDepth 100000 in
theorem inm_X2 : ∀ w ∈ u_ws RX2 TX2 12, w ∈ mWS := by
  intro w hw
  obtain ⟨k, hk, rfl⟩ := List.mem_map.mp hw
  have hk := List.mem_range.mp hk
  match k, hk with
  | 0, _ => exact tw_197
  | 1, _ => exact tw_199
  | 2, _ => exact tw_201
  | 3, _ => exact tw_203
  | 4, _ => exact tw_205
  | 5, _ => exact tw_207
  | 6, _ => exact tw_209
  | 7, _ => exact tw_211
  | 8, _ => exact tw_213
  | 9, _ => exact tw_215
  | 10, _ => exact tw_217
  | 11, _ => exact tw_219
  | k + 12, hk => exact absurd hk (by omega)
def new_X2 : List mV := [vr none, vr none, vr none, vr none, vr none, vr none, vr none, vi 0, vi 0, vi 0, vi 0, vi 0]
theorem new_X2_ok (g : mG) (j : Nat) (h : j < 12) : defaultValue (tyX2 j) = vp_V (new_X2.map (mt g)) j := by
  match j, h with
  | 0, _ => rfl
  | 1, _ => rfl
  | 2, _ => rfl
  | 3, _ => rfl
  | 4, _ => rfl
  | 5, _ => rfl
  | 6, _ => rfl
  | 7, _ => rfl
  | 8, _ => rfl
  | 9, _ => rfl
  | 10, _ => rfl
  | 11, _ => rfl
  | j + 12, h => exact absurd h (by omega)
set_option maxRecDepth 100000 in
theorem inm_X3 : ∀ w ∈ u_ws RX3 TX3 2, w ∈ mWS := by
  intro w hw
  obtain ⟨k, hk, rfl⟩ := List.mem_map.mp hw
  have hk := List.mem_range.mp hk
  match k, hk with
  | 0, _ => exact tw_101
  | 1, _ => exact tw_103
  | k + 2, hk => exact absurd hk (by omega)
def new_X3 : List mV := [vr none, vi 0]
theorem new_X3_ok (g : mG) (j : Nat) (h : j < 2) : defaultValue (tyX3 j) = vp_V (new_X3.map (mt g)) j := by
  match j, h with
  | 0, _ => rfl
  | 1, _ => rfl
  | j + 2, h => exact absurd h (by omega)
set_option maxRecDepth 100000 in
theorem inm_X4 : ∀ w ∈ u_ws RX4 TX4 7, w ∈ mWS := by
  intro w hw
  obtain ⟨k, hk, rfl⟩ := List.mem_map.mp hw
  have hk := List.mem_range.mp hk
  match k, hk with
  | 0, _ => exact tw_235
  | 1, _ => exact tw_237
  | 2, _ => exact tw_239
  | 3, _ => exact tw_241
  | 4, _ => exact tw_243
  | 5, _ => exact tw_245
  | 6, _ => exact tw_247
  | k + 7, hk => exact absurd hk (by omega)
def new_X4 : List mV := [vr none, vr none, vr none, vr none, vr none, vi 0, vi 0]
theorem new_X4_ok (g : mG) (j : Nat) (h : j < 7) : defaultValue (tyX4 j) = vp_V (new_X4.map (mt g)) j := by
  match j, h with
  | 0, _ => rfl
  | 1, _ => rfl
  | 2, _ => rfl
  | 3, _ => rfl
  | 4, _ => rfl
  | 5, _ => rfl
  | 6, _ => rfl
  | j + 7, h => exact absurd h (by omega)
set_option maxRecDepth 100000 in
theorem inm_X5 : ∀ w ∈ u_ws RX5 TX5 8, w ∈ mWS := by
  intro w hw
  obtain ⟨k, hk, rfl⟩ := List.mem_map.mp hw
  have hk := List.mem_range.mp hk
  match k, hk with
  | 0, _ => exact tw_127
  | 1, _ => exact tw_129
  | 2, _ => exact tw_131
  | 3, _ => exact tw_133
  | 4, _ => exact tw_135
  | 5, _ => exact tw_137
  | 6, _ => exact tw_139
  | 7, _ => exact tw_141
  | k + 8, hk => exact absurd hk (by omega)
def new_X5 : List mV := [vr none, vr none, vr none, vr none, vi 0, vi 0, vi 0, vi 0]
theorem new_X5_ok (g : mG) (j : Nat) (h : j < 8) : defaultValue (tyX5 j) = vp_V (new_X5.map (mt g)) j := by
  match j, h with
  | 0, _ => rfl
  | 1, _ => rfl
  | 2, _ => rfl
  | 3, _ => rfl
  | 4, _ => rfl
  | 5, _ => rfl
  | 6, _ => rfl
  | 7, _ => rfl
  | j + 8, h => exact absurd h (by omega)
set_option maxRecDepth 100000 in
theorem inm_X6 : ∀ w ∈ u_ws RX6 TX6 4, w ∈ mWS := by
  intro w hw
  obtain ⟨k, hk, rfl⟩ := List.mem_map.mp hw
  have hk := List.mem_range.mp hk
  match k, hk with
  | 0, _ => exact tw_164
  | 1, _ => exact tw_166
  | 2, _ => exact tw_168
  | 3, _ => exact tw_170
  | k + 4, hk => exact absurd hk (by omega)
def new_X6 : List mV := [vr none, vr none, vr none, vi 0]
theorem new_X6_ok (g : mG) (j : Nat) (h : j < 4) : defaultValue (tyX6 j) = vp_V (new_X6.map (mt g)) j := by
  match j, h with
  | 0, _ => rfl
  | 1, _ => rfl
  | 2, _ => rfl
  | 3, _ => rfl
  | j + 4, h => exact absurd h (by omega)
theorem inm_X7 : ∀ w ∈ u_ws RX7 TX7 0, w ∈ mWS := fun _ h => by cases h
def new_X7 : List mV := []
theorem new_X7_ok (g : mG) (j : Nat) (h : j < 0) : defaultValue (tyX7 j) = vp_V (new_X7.map (mt g)) j := absurd h (Nat.not_lt_zero j)
theorem inm_X8 : ∀ w ∈ u_ws RX8 TX8 0, w ∈ mWS := fun _ h => by cases h
def new_X8 : List mV := []
theorem new_X8_ok (g : mG) (j : Nat) (h : j < 0) : defaultValue (tyX8 j) = vp_V (new_X8.map (mt g)) j := absurd h (Nat.not_lt_zero j)
theorem inm_X9 : ∀ w ∈ u_ws RX9 TX9 0, w ∈ mWS := fun _ h => by cases h
def new_X9 : List mV := []
theorem new_X9_ok (g : mG) (j : Nat) (h : j < 0) : defaultValue (tyX9 j) = vp_V (new_X9.map (mt g)) j := absurd h (Nat.not_lt_zero j)
set_option maxRecDepth 100000 in
theorem inm_X10 : ∀ w ∈ u_ws RX10 TX10 11, w ∈ mWS := by
  intro w hw
  obtain ⟨k, hk, rfl⟩ := List.mem_map.mp hw
  have hk := List.mem_range.mp hk
  match k, hk with
  | 0, _ => exact tw_261
  | 1, _ => exact tw_263
  | 2, _ => exact tw_265
  | 3, _ => exact tw_267
  | 4, _ => exact tw_269
  | 5, _ => exact tw_271
  | 6, _ => exact tw_273
  | 7, _ => exact tw_275
  | 8, _ => exact tw_277
  | 9, _ => exact tw_279
  | 10, _ => exact tw_281
  | k + 11, hk => exact absurd hk (by omega)
def new_X10 : List mV := [vr none, vr none, vr none, vr none, vr none, vr none, vr none, vi 0, vi 0, vi 0, vi 0]
theorem new_X10_ok (g : mG) (j : Nat) (h : j < 11) : defaultValue (tyX10 j) = vp_V (new_X10.map (mt g)) j := by
  match j, h with
  | 0, _ => rfl
  | 1, _ => rfl
  | 2, _ => rfl
  | 3, _ => rfl
  | 4, _ => rfl
  | 5, _ => rfl
  | 6, _ => rfl
  | 7, _ => rfl
  | 8, _ => rfl
  | 9, _ => rfl
  | 10, _ => rfl
  | j + 11, h => exact absurd h (by omega)
set_option maxRecDepth 100000 in
theorem inm_X11 : ∀ w ∈ u_ws RX11 TX11 40, w ∈ mWS := by
  intro w hw
  obtain ⟨k, hk, rfl⟩ := List.mem_map.mp hw
  have hk := List.mem_range.mp hk
  match k, hk with
  | 0, _ => exact tw_868
  | 1, _ => exact tw_870
  | 2, _ => exact tw_872
  | 3, _ => exact tw_874
  | 4, _ => exact tw_876
  | 5, _ => exact tw_878
  | 6, _ => exact tw_880
  | 7, _ => exact tw_882
  | 8, _ => exact tw_884
  | 9, _ => exact tw_886
  | 10, _ => exact tw_888
  | 11, _ => exact tw_890
  | 12, _ => exact tw_892
  | 13, _ => exact tw_894
  | 14, _ => exact tw_896
  | 15, _ => exact tw_898
  | 16, _ => exact tw_900
  | 17, _ => exact tw_902
  | 18, _ => exact tw_904
  | 19, _ => exact tw_906
  | 20, _ => exact tw_908
  | 21, _ => exact tw_910
  | 22, _ => exact tw_912
  | 23, _ => exact tw_914
  | 24, _ => exact tw_916
  | 25, _ => exact tw_918
  | 26, _ => exact tw_920
  | 27, _ => exact tw_922
  | 28, _ => exact tw_924
  | 29, _ => exact tw_926
  | 30, _ => exact tw_928
  | 31, _ => exact tw_930
  | 32, _ => exact tw_932
  | 33, _ => exact tw_934
  | 34, _ => exact tw_936
  | 35, _ => exact tw_938
  | 36, _ => exact tw_940
  | 37, _ => exact tw_942
  | 38, _ => exact tw_944
  | 39, _ => exact tw_946
  | k + 40, hk => exact absurd hk (by omega)
def new_X11 : List mV := [vr none, vi 0, vi 0, vi 0, vi 0, vi 0, vi 0, vi 0, vi 0, vi 0, vr none, vr none, vr none, vr none, vr none, vr none, vr none, vr none, vr none, vr none, vr none, vi 0, vi 0, vr none, vi 0, vi 0, vi 0, vi 0, vi 0, vi 0, vi 0, vr none, vr none, vr none, vr none, vr none, vr none, vr none, vr none, vl 0]
theorem new_X11_ok (g : mG) (j : Nat) (h : j < 40) : defaultValue (tyX11 j) = vp_V (new_X11.map (mt g)) j := by
  match j, h with
  | 0, _ => rfl
  | 1, _ => rfl
  | 2, _ => rfl
  | 3, _ => rfl
  | 4, _ => rfl
  | 5, _ => rfl
  | 6, _ => rfl
  | 7, _ => rfl
  | 8, _ => rfl
  | 9, _ => rfl
  | 10, _ => rfl
  | 11, _ => rfl
  | 12, _ => rfl
  | 13, _ => rfl
  | 14, _ => rfl
  | 15, _ => rfl
  | 16, _ => rfl
  | 17, _ => rfl
  | 18, _ => rfl
  | 19, _ => rfl
  | 20, _ => rfl
  | 21, _ => rfl
  | 22, _ => rfl
  | 23, _ => rfl
  | 24, _ => rfl
  | 25, _ => rfl
  | 26, _ => rfl
  | 27, _ => rfl
  | 28, _ => rfl
  | 29, _ => rfl
  | 30, _ => rfl
  | 31, _ => rfl
  | 32, _ => rfl
  | 33, _ => rfl
  | 34, _ => rfl
  | 35, _ => rfl
  | 36, _ => rfl
  | 37, _ => rfl
  | 38, _ => rfl
  | 39, _ => rfl
  | j + 40, h => exact absurd h (by omega)
theorem fl_X10_10 : mFld "PancakePort" 10 10 0 := ⟨RX10, TX10, 11, rfl, inm_X10, by decide, tw_250⟩
theorem fl_X10_19 : mFld "PancakePort" 19 10 1 := ⟨RX10, TX10, 11, rfl, inm_X10, by decide, tw_251⟩
theorem fl_X10_25 : mFld "PancakePort" 25 10 2 := ⟨RX10, TX10, 11, rfl, inm_X10, by decide, tw_252⟩
theorem fl_X10_32 : mFld "PancakePort" 32 10 3 := ⟨RX10, TX10, 11, rfl, inm_X10, by decide, tw_253⟩
theorem fl_X10_36 : mFld "PancakePort" 36 10 4 := ⟨RX10, TX10, 11, rfl, inm_X10, by decide, tw_254⟩
theorem fl_X10_42 : mFld "PancakePort" 42 10 5 := ⟨RX10, TX10, 11, rfl, inm_X10, by decide, tw_255⟩
theorem fl_X10_46 : mFld "PancakePort" 46 10 6 := ⟨RX10, TX10, 11, rfl, inm_X10, by decide, tw_256⟩
theorem fl_X10_50 : mFld "PancakePort" 50 3 1 := ⟨RX3, TX3, 2, rfl, inm_X3, by decide, tw_99⟩
theorem fl_X10_69 : mFld "PancakePort" 69 10 9 := ⟨RX10, TX10, 11, rfl, inm_X10, by decide, tw_259⟩
theorem fl_X10_72 : mFld "PancakePort" 72 10 7 := ⟨RX10, TX10, 11, rfl, inm_X10, by decide, tw_257⟩
theorem fl_X10_79 : mFld "PancakePort" 79 2 0 := ⟨RX2, TX2, 12, rfl, inm_X2, by decide, tw_174⟩
theorem fl_X10_86 : mFld "PancakePort" 86 2 7 := ⟨RX2, TX2, 12, rfl, inm_X2, by decide, tw_188⟩
theorem fl_X10_89 : mFld "PancakePort" 89 2 1 := ⟨RX2, TX2, 12, rfl, inm_X2, by decide, tw_176⟩
theorem fl_X10_92 : mFld "PancakePort" 92 2 2 := ⟨RX2, TX2, 12, rfl, inm_X2, by decide, tw_178⟩
theorem fl_X10_107 : mFld "PancakePort" 107 2 3 := ⟨RX2, TX2, 12, rfl, inm_X2, by decide, tw_180⟩
theorem fl_X10_110 : mFld "PancakePort" 110 2 4 := ⟨RX2, TX2, 12, rfl, inm_X2, by decide, tw_182⟩
theorem fl_X10_123 : mFld "PancakePort" 123 2 6 := ⟨RX2, TX2, 12, rfl, inm_X2, by decide, tw_186⟩
theorem fl_X10_135 : mFld "PancakePort" 135 2 5 := ⟨RX2, TX2, 12, rfl, inm_X2, by decide, tw_184⟩
theorem fl_X10_146 : mFld "PancakePort" 146 2 8 := ⟨RX2, TX2, 12, rfl, inm_X2, by decide, tw_190⟩
theorem fl_X10_159 : mFld "PancakePort" 159 2 9 := ⟨RX2, TX2, 12, rfl, inm_X2, by decide, tw_192⟩
theorem fl_X10_161 : mFld "PancakePort" 161 2 11 := ⟨RX2, TX2, 12, rfl, inm_X2, by decide, tw_196⟩
theorem fl_X10_176 : mFld "PancakePort" 176 2 10 := ⟨RX2, TX2, 12, rfl, inm_X2, by decide, tw_194⟩
theorem fl_X10_197 : mFld "PancakePort" 197 10 8 := ⟨RX10, TX10, 11, rfl, inm_X10, by decide, tw_258⟩
theorem fl_X10_206 : mFld "PancakePort" 206 6 3 := ⟨RX6, TX6, 4, rfl, inm_X6, by decide, tw_163⟩
theorem fl_X10_223 : mFld "PancakePort" 223 10 10 := ⟨RX10, TX10, 11, rfl, inm_X10, by decide, tw_260⟩
theorem fl_X10_251 : mFld "PancakePort" 251 3 0 := ⟨RX3, TX3, 2, rfl, inm_X3, by decide, tw_97⟩
theorem fl_X10_262 : mFld "PancakePort" 262 5 4 := ⟨RX5, TX5, 8, rfl, inm_X5, by decide, tw_122⟩
theorem fl_X10_265 : mFld "PancakePort" 265 5 5 := ⟨RX5, TX5, 8, rfl, inm_X5, by decide, tw_124⟩
theorem fl_X10_271 : mFld "PancakePort" 271 5 1 := ⟨RX5, TX5, 8, rfl, inm_X5, by decide, tw_116⟩
theorem fl_X2_9 : mFld "PancakePort$Night" 9 2 0 := ⟨RX2, TX2, 12, rfl, inm_X2, by decide, tw_173⟩
theorem fl_X2_15 : mFld "PancakePort$Night" 15 2 1 := ⟨RX2, TX2, 12, rfl, inm_X2, by decide, tw_175⟩
theorem fl_X2_18 : mFld "PancakePort$Night" 18 2 2 := ⟨RX2, TX2, 12, rfl, inm_X2, by decide, tw_177⟩
theorem fl_X2_21 : mFld "PancakePort$Night" 21 2 3 := ⟨RX2, TX2, 12, rfl, inm_X2, by decide, tw_179⟩
theorem fl_X2_24 : mFld "PancakePort$Night" 24 2 4 := ⟨RX2, TX2, 12, rfl, inm_X2, by decide, tw_181⟩
theorem fl_X2_27 : mFld "PancakePort$Night" 27 2 5 := ⟨RX2, TX2, 12, rfl, inm_X2, by decide, tw_183⟩
theorem fl_X2_33 : mFld "PancakePort$Night" 33 2 6 := ⟨RX2, TX2, 12, rfl, inm_X2, by decide, tw_185⟩
theorem fl_X2_37 : mFld "PancakePort$Night" 37 5 0 := ⟨RX5, TX5, 8, rfl, inm_X5, by decide, tw_114⟩
theorem fl_X2_44 : mFld "PancakePort$Night" 44 5 2 := ⟨RX5, TX5, 8, rfl, inm_X5, by decide, tw_118⟩
theorem fl_X2_45 : mFld "PancakePort$Night" 45 5 3 := ⟨RX5, TX5, 8, rfl, inm_X5, by decide, tw_120⟩
theorem fl_X2_54 : mFld "PancakePort$Night" 54 2 7 := ⟨RX2, TX2, 12, rfl, inm_X2, by decide, tw_187⟩
theorem fl_X2_57 : mFld "PancakePort$Night" 57 2 8 := ⟨RX2, TX2, 12, rfl, inm_X2, by decide, tw_189⟩
theorem fl_X2_60 : mFld "PancakePort$Night" 60 2 9 := ⟨RX2, TX2, 12, rfl, inm_X2, by decide, tw_191⟩
theorem fl_X2_63 : mFld "PancakePort$Night" 63 2 10 := ⟨RX2, TX2, 12, rfl, inm_X2, by decide, tw_193⟩
theorem fl_X2_66 : mFld "PancakePort$Night" 66 2 11 := ⟨RX2, TX2, 12, rfl, inm_X2, by decide, tw_195⟩
theorem fl_X3_9 : mFld "PancakePort$Page" 9 3 0 := ⟨RX3, TX3, 2, rfl, inm_X3, by decide, tw_95⟩
theorem fl_X3_15 : mFld "PancakePort$Page" 15 3 1 := ⟨RX3, TX3, 2, rfl, inm_X3, by decide, tw_98⟩
theorem fl_X4_9 : mFld "PancakePort$Plan" 9 4 0 := ⟨RX4, TX4, 7, rfl, inm_X4, by decide, tw_228⟩
theorem fl_X4_15 : mFld "PancakePort$Plan" 15 4 1 := ⟨RX4, TX4, 7, rfl, inm_X4, by decide, tw_229⟩
theorem fl_X4_18 : mFld "PancakePort$Plan" 18 4 2 := ⟨RX4, TX4, 7, rfl, inm_X4, by decide, tw_230⟩
theorem fl_X4_21 : mFld "PancakePort$Plan" 21 4 3 := ⟨RX4, TX4, 7, rfl, inm_X4, by decide, tw_231⟩
theorem fl_X4_24 : mFld "PancakePort$Plan" 24 4 4 := ⟨RX4, TX4, 7, rfl, inm_X4, by decide, tw_232⟩
theorem fl_X4_50 : mFld "PancakePort$Plan" 50 4 6 := ⟨RX4, TX4, 7, rfl, inm_X4, by decide, tw_234⟩
theorem fl_X4_54 : mFld "PancakePort$Plan" 54 4 5 := ⟨RX4, TX4, 7, rfl, inm_X4, by decide, tw_233⟩
theorem fl_X5_9 : mFld "PancakePort$Reading" 9 5 0 := ⟨RX5, TX5, 8, rfl, inm_X5, by decide, tw_113⟩
theorem fl_X5_15 : mFld "PancakePort$Reading" 15 5 1 := ⟨RX5, TX5, 8, rfl, inm_X5, by decide, tw_115⟩
theorem fl_X5_18 : mFld "PancakePort$Reading" 18 5 2 := ⟨RX5, TX5, 8, rfl, inm_X5, by decide, tw_117⟩
theorem fl_X5_21 : mFld "PancakePort$Reading" 21 5 3 := ⟨RX5, TX5, 8, rfl, inm_X5, by decide, tw_119⟩
theorem fl_X5_24 : mFld "PancakePort$Reading" 24 5 4 := ⟨RX5, TX5, 8, rfl, inm_X5, by decide, tw_121⟩
theorem fl_X5_28 : mFld "PancakePort$Reading" 28 5 5 := ⟨RX5, TX5, 8, rfl, inm_X5, by decide, tw_123⟩
theorem fl_X5_31 : mFld "PancakePort$Reading" 31 5 7 := ⟨RX5, TX5, 8, rfl, inm_X5, by decide, tw_126⟩
theorem fl_X5_34 : mFld "PancakePort$Reading" 34 3 1 := ⟨RX3, TX3, 2, rfl, inm_X3, by decide, tw_100⟩
theorem fl_X5_39 : mFld "PancakePort$Reading" 39 3 0 := ⟨RX3, TX3, 2, rfl, inm_X3, by decide, tw_96⟩
theorem fl_X5_71 : mFld "PancakePort$Reading" 71 5 6 := ⟨RX5, TX5, 8, rfl, inm_X5, by decide, tw_125⟩
theorem fl_X6_9 : mFld "PancakePort$Seen" 9 6 0 := ⟨RX6, TX6, 4, rfl, inm_X6, by decide, tw_158⟩
theorem fl_X6_15 : mFld "PancakePort$Seen" 15 6 1 := ⟨RX6, TX6, 4, rfl, inm_X6, by decide, tw_159⟩
theorem fl_X6_18 : mFld "PancakePort$Seen" 18 6 2 := ⟨RX6, TX6, 4, rfl, inm_X6, by decide, tw_160⟩
theorem fl_X6_21 : mFld "PancakePort$Seen" 21 6 3 := ⟨RX6, TX6, 4, rfl, inm_X6, by decide, tw_161⟩
theorem fl_X11_7 : mFld "PancakePortModel" 7 11 0 := ⟨RX11, TX11, 40, rfl, inm_X11, by decide, tw_828⟩
theorem fl_X11_13 : mFld "PancakePortModel" 13 11 10 := ⟨RX11, TX11, 40, rfl, inm_X11, by decide, tw_838⟩
theorem fl_X11_16 : mFld "PancakePortModel" 16 11 11 := ⟨RX11, TX11, 40, rfl, inm_X11, by decide, tw_839⟩
theorem fl_X11_19 : mFld "PancakePortModel" 19 11 12 := ⟨RX11, TX11, 40, rfl, inm_X11, by decide, tw_840⟩
theorem fl_X11_22 : mFld "PancakePortModel" 22 11 13 := ⟨RX11, TX11, 40, rfl, inm_X11, by decide, tw_841⟩
theorem fl_X11_25 : mFld "PancakePortModel" 25 11 14 := ⟨RX11, TX11, 40, rfl, inm_X11, by decide, tw_842⟩
theorem fl_X11_28 : mFld "PancakePortModel" 28 11 15 := ⟨RX11, TX11, 40, rfl, inm_X11, by decide, tw_843⟩
theorem fl_X11_31 : mFld "PancakePortModel" 31 11 16 := ⟨RX11, TX11, 40, rfl, inm_X11, by decide, tw_844⟩
theorem fl_X11_34 : mFld "PancakePortModel" 34 11 17 := ⟨RX11, TX11, 40, rfl, inm_X11, by decide, tw_845⟩
theorem fl_X11_37 : mFld "PancakePortModel" 37 11 18 := ⟨RX11, TX11, 40, rfl, inm_X11, by decide, tw_846⟩
theorem fl_X11_40 : mFld "PancakePortModel" 40 11 19 := ⟨RX11, TX11, 40, rfl, inm_X11, by decide, tw_847⟩
theorem fl_X11_43 : mFld "PancakePortModel" 43 11 20 := ⟨RX11, TX11, 40, rfl, inm_X11, by decide, tw_848⟩
theorem fl_X11_46 : mFld "PancakePortModel" 46 11 23 := ⟨RX11, TX11, 40, rfl, inm_X11, by decide, tw_851⟩
theorem fl_X11_49 : mFld "PancakePortModel" 49 11 31 := ⟨RX11, TX11, 40, rfl, inm_X11, by decide, tw_859⟩
theorem fl_X11_52 : mFld "PancakePortModel" 52 11 32 := ⟨RX11, TX11, 40, rfl, inm_X11, by decide, tw_860⟩
theorem fl_X11_55 : mFld "PancakePortModel" 55 11 33 := ⟨RX11, TX11, 40, rfl, inm_X11, by decide, tw_861⟩
theorem fl_X11_58 : mFld "PancakePortModel" 58 11 34 := ⟨RX11, TX11, 40, rfl, inm_X11, by decide, tw_862⟩
theorem fl_X11_61 : mFld "PancakePortModel" 61 11 35 := ⟨RX11, TX11, 40, rfl, inm_X11, by decide, tw_863⟩
theorem fl_X11_64 : mFld "PancakePortModel" 64 11 36 := ⟨RX11, TX11, 40, rfl, inm_X11, by decide, tw_864⟩
theorem fl_X11_67 : mFld "PancakePortModel" 67 11 37 := ⟨RX11, TX11, 40, rfl, inm_X11, by decide, tw_865⟩
theorem fl_X11_70 : mFld "PancakePortModel" 70 11 38 := ⟨RX11, TX11, 40, rfl, inm_X11, by decide, tw_866⟩
theorem fl_X11_73 : mFld "PancakePortModel" 73 11 25 := ⟨RX11, TX11, 40, rfl, inm_X11, by decide, tw_853⟩
theorem fl_X11_83 : mFld "PancakePortModel" 83 11 1 := ⟨RX11, TX11, 40, rfl, inm_X11, by decide, tw_829⟩
theorem fl_X11_98 : mFld "PancakePortModel" 98 11 2 := ⟨RX11, TX11, 40, rfl, inm_X11, by decide, tw_830⟩
theorem fl_X11_116 : mFld "PancakePortModel" 116 11 3 := ⟨RX11, TX11, 40, rfl, inm_X11, by decide, tw_831⟩
theorem fl_X11_119 : mFld "PancakePortModel" 119 11 4 := ⟨RX11, TX11, 40, rfl, inm_X11, by decide, tw_832⟩
theorem fl_X11_122 : mFld "PancakePortModel" 122 11 5 := ⟨RX11, TX11, 40, rfl, inm_X11, by decide, tw_833⟩
theorem fl_X11_125 : mFld "PancakePortModel" 125 11 6 := ⟨RX11, TX11, 40, rfl, inm_X11, by decide, tw_834⟩
theorem fl_X11_128 : mFld "PancakePortModel" 128 11 7 := ⟨RX11, TX11, 40, rfl, inm_X11, by decide, tw_835⟩
theorem fl_X11_131 : mFld "PancakePortModel" 131 11 8 := ⟨RX11, TX11, 40, rfl, inm_X11, by decide, tw_836⟩
theorem fl_X11_134 : mFld "PancakePortModel" 134 11 22 := ⟨RX11, TX11, 40, rfl, inm_X11, by decide, tw_850⟩
theorem fl_X11_137 : mFld "PancakePortModel" 137 11 9 := ⟨RX11, TX11, 40, rfl, inm_X11, by decide, tw_837⟩
theorem fl_X11_223 : mFld "PancakePortModel" 223 11 21 := ⟨RX11, TX11, 40, rfl, inm_X11, by decide, tw_849⟩
theorem fl_X11_251 : mFld "PancakePortModel" 251 11 24 := ⟨RX11, TX11, 40, rfl, inm_X11, by decide, tw_852⟩
theorem fl_X11_268 : mFld "PancakePortModel" 268 11 26 := ⟨RX11, TX11, 40, rfl, inm_X11, by decide, tw_854⟩
theorem fl_X11_271 : mFld "PancakePortModel" 271 11 27 := ⟨RX11, TX11, 40, rfl, inm_X11, by decide, tw_855⟩
theorem fl_X11_274 : mFld "PancakePortModel" 274 11 28 := ⟨RX11, TX11, 40, rfl, inm_X11, by decide, tw_856⟩
theorem fl_X11_277 : mFld "PancakePortModel" 277 11 29 := ⟨RX11, TX11, 40, rfl, inm_X11, by decide, tw_857⟩
theorem fl_X11_280 : mFld "PancakePortModel" 280 11 30 := ⟨RX11, TX11, 40, rfl, inm_X11, by decide, tw_858⟩
theorem fl_X11_292 : mFld "PancakePortModel" 292 11 39 := ⟨RX11, TX11, 40, rfl, inm_X11, by decide, tw_867⟩
theorem fp_X10_10 : mFldP "PancakePort" 10 10 0 (.object "PancakePort$Page") true := ⟨RX10, TX10, 11, rfl, inm_X10, by decide, tw_250, ⟨tyX10, tyX10_ok⟩, nmX10, rfl, by decide +kernel, fun _ => rfl⟩
theorem fp_X10_19 : mFldP "PancakePort" 19 10 1 (.object "PancakePort$Reading") true := ⟨RX10, TX10, 11, rfl, inm_X10, by decide, tw_251, ⟨tyX10, tyX10_ok⟩, nmX10, rfl, by decide +kernel, fun _ => rfl⟩
theorem fp_X10_25 : mFldP "PancakePort" 25 10 2 (.array (.object "PancakePort$Tosser")) true := ⟨RX10, TX10, 11, rfl, inm_X10, by decide, tw_252, ⟨tyX10, tyX10_ok⟩, nmX10, rfl, by decide +kernel, fun _ => rfl⟩
theorem fp_X10_32 : mFldP "PancakePort" 32 10 3 (.object "PancakePort$Night") true := ⟨RX10, TX10, 11, rfl, inm_X10, by decide, tw_253, ⟨tyX10, tyX10_ok⟩, nmX10, rfl, by decide +kernel, fun _ => rfl⟩
theorem fp_X10_36 : mFldP "PancakePort" 36 10 4 (.object "PancakePort$Night") true := ⟨RX10, TX10, 11, rfl, inm_X10, by decide, tw_254, ⟨tyX10, tyX10_ok⟩, nmX10, rfl, by decide +kernel, fun _ => rfl⟩
theorem fp_X10_42 : mFldP "PancakePort" 42 10 5 (.object "PancakePort$Plan") true := ⟨RX10, TX10, 11, rfl, inm_X10, by decide, tw_255, ⟨tyX10, tyX10_ok⟩, nmX10, rfl, by decide +kernel, fun _ => rfl⟩
theorem fp_X10_46 : mFldP "PancakePort" 46 10 6 (.array .int) true := ⟨RX10, TX10, 11, rfl, inm_X10, by decide, tw_256, ⟨tyX10, tyX10_ok⟩, nmX10, rfl, by decide +kernel, fun _ => rfl⟩
theorem fp_X10_50 : mFldP "PancakePort" 50 3 1 .int false := ⟨RX3, TX3, 2, rfl, inm_X3, by decide, tw_99, ⟨tyX3, tyX3_ok⟩, nmX3, rfl, by decide +kernel, fun h => by cases h⟩
theorem fp_X10_69 : mFldP "PancakePort" 69 10 9 .int false := ⟨RX10, TX10, 11, rfl, inm_X10, by decide, tw_259, ⟨tyX10, tyX10_ok⟩, nmX10, rfl, by decide +kernel, fun h => by cases h⟩
theorem fp_X10_72 : mFldP "PancakePort" 72 10 7 .int false := ⟨RX10, TX10, 11, rfl, inm_X10, by decide, tw_257, ⟨tyX10, tyX10_ok⟩, nmX10, rfl, by decide +kernel, fun h => by cases h⟩
theorem fp_X10_86 : mFldP "PancakePort" 86 2 7 .int false := ⟨RX2, TX2, 12, rfl, inm_X2, by decide, tw_188, ⟨tyX2, tyX2_ok⟩, nmX2, rfl, by decide +kernel, fun h => by cases h⟩
theorem fp_X10_146 : mFldP "PancakePort" 146 2 8 .int false := ⟨RX2, TX2, 12, rfl, inm_X2, by decide, tw_190, ⟨tyX2, tyX2_ok⟩, nmX2, rfl, by decide +kernel, fun h => by cases h⟩
theorem fp_X10_159 : mFldP "PancakePort" 159 2 9 .int false := ⟨RX2, TX2, 12, rfl, inm_X2, by decide, tw_192, ⟨tyX2, tyX2_ok⟩, nmX2, rfl, by decide +kernel, fun h => by cases h⟩
theorem fp_X10_161 : mFldP "PancakePort" 161 2 11 .int false := ⟨RX2, TX2, 12, rfl, inm_X2, by decide, tw_196, ⟨tyX2, tyX2_ok⟩, nmX2, rfl, by decide +kernel, fun h => by cases h⟩
theorem fp_X10_197 : mFldP "PancakePort" 197 10 8 .int false := ⟨RX10, TX10, 11, rfl, inm_X10, by decide, tw_258, ⟨tyX10, tyX10_ok⟩, nmX10, rfl, by decide +kernel, fun h => by cases h⟩
theorem fp_X10_206 : mFldP "PancakePort" 206 6 3 .int false := ⟨RX6, TX6, 4, rfl, inm_X6, by decide, tw_163, ⟨tyX6, tyX6_ok⟩, nmX6, rfl, by decide +kernel, fun h => by cases h⟩
theorem fp_X10_223 : mFldP "PancakePort" 223 10 10 .boolean false := ⟨RX10, TX10, 11, rfl, inm_X10, by decide, tw_260, ⟨tyX10, tyX10_ok⟩, nmX10, rfl, by decide +kernel, fun h => by cases h⟩
theorem fp_X2_9 : mFldP "PancakePort$Night" 9 2 0 (.array .int) true := ⟨RX2, TX2, 12, rfl, inm_X2, by decide, tw_173, ⟨tyX2, tyX2_ok⟩, nmX2, rfl, by decide +kernel, fun _ => rfl⟩
theorem fp_X2_15 : mFldP "PancakePort$Night" 15 2 1 (.array .int) true := ⟨RX2, TX2, 12, rfl, inm_X2, by decide, tw_175, ⟨tyX2, tyX2_ok⟩, nmX2, rfl, by decide +kernel, fun _ => rfl⟩
theorem fp_X2_18 : mFldP "PancakePort$Night" 18 2 2 (.array .int) true := ⟨RX2, TX2, 12, rfl, inm_X2, by decide, tw_177, ⟨tyX2, tyX2_ok⟩, nmX2, rfl, by decide +kernel, fun _ => rfl⟩
theorem fp_X2_21 : mFldP "PancakePort$Night" 21 2 3 (.array .int) true := ⟨RX2, TX2, 12, rfl, inm_X2, by decide, tw_179, ⟨tyX2, tyX2_ok⟩, nmX2, rfl, by decide +kernel, fun _ => rfl⟩
theorem fp_X2_24 : mFldP "PancakePort$Night" 24 2 4 (.array .int) true := ⟨RX2, TX2, 12, rfl, inm_X2, by decide, tw_181, ⟨tyX2, tyX2_ok⟩, nmX2, rfl, by decide +kernel, fun _ => rfl⟩
theorem fp_X2_27 : mFldP "PancakePort$Night" 27 2 5 (.array .int) true := ⟨RX2, TX2, 12, rfl, inm_X2, by decide, tw_183, ⟨tyX2, tyX2_ok⟩, nmX2, rfl, by decide +kernel, fun _ => rfl⟩
theorem fp_X2_33 : mFldP "PancakePort$Night" 33 2 6 (.object "PancakePort$Seen") true := ⟨RX2, TX2, 12, rfl, inm_X2, by decide, tw_185, ⟨tyX2, tyX2_ok⟩, nmX2, rfl, by decide +kernel, fun _ => rfl⟩
theorem fp_X2_50 : mFldP "PancakePort$Night" 50 6 3 .int false := ⟨RX6, TX6, 4, rfl, inm_X6, by decide, tw_162, ⟨tyX6, tyX6_ok⟩, nmX6, rfl, by decide +kernel, fun h => by cases h⟩
theorem fp_X2_54 : mFldP "PancakePort$Night" 54 2 7 .int false := ⟨RX2, TX2, 12, rfl, inm_X2, by decide, tw_187, ⟨tyX2, tyX2_ok⟩, nmX2, rfl, by decide +kernel, fun h => by cases h⟩
theorem fp_X2_57 : mFldP "PancakePort$Night" 57 2 8 .int false := ⟨RX2, TX2, 12, rfl, inm_X2, by decide, tw_189, ⟨tyX2, tyX2_ok⟩, nmX2, rfl, by decide +kernel, fun h => by cases h⟩
theorem fp_X2_60 : mFldP "PancakePort$Night" 60 2 9 .int false := ⟨RX2, TX2, 12, rfl, inm_X2, by decide, tw_191, ⟨tyX2, tyX2_ok⟩, nmX2, rfl, by decide +kernel, fun h => by cases h⟩
theorem fp_X2_63 : mFldP "PancakePort$Night" 63 2 10 .int false := ⟨RX2, TX2, 12, rfl, inm_X2, by decide, tw_193, ⟨tyX2, tyX2_ok⟩, nmX2, rfl, by decide +kernel, fun h => by cases h⟩
theorem fp_X2_66 : mFldP "PancakePort$Night" 66 2 11 .int false := ⟨RX2, TX2, 12, rfl, inm_X2, by decide, tw_195, ⟨tyX2, tyX2_ok⟩, nmX2, rfl, by decide +kernel, fun h => by cases h⟩
theorem fp_X3_9 : mFldP "PancakePort$Page" 9 3 0 (.array .int) true := ⟨RX3, TX3, 2, rfl, inm_X3, by decide, tw_95, ⟨tyX3, tyX3_ok⟩, nmX3, rfl, by decide +kernel, fun _ => rfl⟩
theorem fp_X3_15 : mFldP "PancakePort$Page" 15 3 1 .int false := ⟨RX3, TX3, 2, rfl, inm_X3, by decide, tw_98, ⟨tyX3, tyX3_ok⟩, nmX3, rfl, by decide +kernel, fun h => by cases h⟩
theorem fp_X4_9 : mFldP "PancakePort$Plan" 9 4 0 (.array .int) true := ⟨RX4, TX4, 7, rfl, inm_X4, by decide, tw_228, ⟨tyX4, tyX4_ok⟩, nmX4, rfl, by decide +kernel, fun _ => rfl⟩
theorem fp_X4_15 : mFldP "PancakePort$Plan" 15 4 1 (.array .int) true := ⟨RX4, TX4, 7, rfl, inm_X4, by decide, tw_229, ⟨tyX4, tyX4_ok⟩, nmX4, rfl, by decide +kernel, fun _ => rfl⟩
theorem fp_X4_18 : mFldP "PancakePort$Plan" 18 4 2 (.array .int) true := ⟨RX4, TX4, 7, rfl, inm_X4, by decide, tw_230, ⟨tyX4, tyX4_ok⟩, nmX4, rfl, by decide +kernel, fun _ => rfl⟩
theorem fp_X4_21 : mFldP "PancakePort$Plan" 21 4 3 (.array .int) true := ⟨RX4, TX4, 7, rfl, inm_X4, by decide, tw_231, ⟨tyX4, tyX4_ok⟩, nmX4, rfl, by decide +kernel, fun _ => rfl⟩
theorem fp_X4_24 : mFldP "PancakePort$Plan" 24 4 4 (.array .int) true := ⟨RX4, TX4, 7, rfl, inm_X4, by decide, tw_232, ⟨tyX4, tyX4_ok⟩, nmX4, rfl, by decide +kernel, fun _ => rfl⟩
theorem fp_X4_50 : mFldP "PancakePort$Plan" 50 4 6 .int false := ⟨RX4, TX4, 7, rfl, inm_X4, by decide, tw_234, ⟨tyX4, tyX4_ok⟩, nmX4, rfl, by decide +kernel, fun h => by cases h⟩
theorem fp_X4_54 : mFldP "PancakePort$Plan" 54 4 5 .int false := ⟨RX4, TX4, 7, rfl, inm_X4, by decide, tw_233, ⟨tyX4, tyX4_ok⟩, nmX4, rfl, by decide +kernel, fun h => by cases h⟩
theorem fp_X5_9 : mFldP "PancakePort$Reading" 9 5 0 (.array .int) true := ⟨RX5, TX5, 8, rfl, inm_X5, by decide, tw_113, ⟨tyX5, tyX5_ok⟩, nmX5, rfl, by decide +kernel, fun _ => rfl⟩
theorem fp_X5_15 : mFldP "PancakePort$Reading" 15 5 1 (.array .int) true := ⟨RX5, TX5, 8, rfl, inm_X5, by decide, tw_115, ⟨tyX5, tyX5_ok⟩, nmX5, rfl, by decide +kernel, fun _ => rfl⟩
theorem fp_X5_18 : mFldP "PancakePort$Reading" 18 5 2 (.array .int) true := ⟨RX5, TX5, 8, rfl, inm_X5, by decide, tw_117, ⟨tyX5, tyX5_ok⟩, nmX5, rfl, by decide +kernel, fun _ => rfl⟩
theorem fp_X5_21 : mFldP "PancakePort$Reading" 21 5 3 (.array .int) true := ⟨RX5, TX5, 8, rfl, inm_X5, by decide, tw_119, ⟨tyX5, tyX5_ok⟩, nmX5, rfl, by decide +kernel, fun _ => rfl⟩
theorem fp_X5_24 : mFldP "PancakePort$Reading" 24 5 4 .int false := ⟨RX5, TX5, 8, rfl, inm_X5, by decide, tw_121, ⟨tyX5, tyX5_ok⟩, nmX5, rfl, by decide +kernel, fun h => by cases h⟩
theorem fp_X5_28 : mFldP "PancakePort$Reading" 28 5 5 .int false := ⟨RX5, TX5, 8, rfl, inm_X5, by decide, tw_123, ⟨tyX5, tyX5_ok⟩, nmX5, rfl, by decide +kernel, fun h => by cases h⟩
theorem fp_X5_31 : mFldP "PancakePort$Reading" 31 5 7 .int false := ⟨RX5, TX5, 8, rfl, inm_X5, by decide, tw_126, ⟨tyX5, tyX5_ok⟩, nmX5, rfl, by decide +kernel, fun h => by cases h⟩
theorem fp_X5_71 : mFldP "PancakePort$Reading" 71 5 6 .int false := ⟨RX5, TX5, 8, rfl, inm_X5, by decide, tw_125, ⟨tyX5, tyX5_ok⟩, nmX5, rfl, by decide +kernel, fun h => by cases h⟩
theorem fp_X6_9 : mFldP "PancakePort$Seen" 9 6 0 (.array .int) true := ⟨RX6, TX6, 4, rfl, inm_X6, by decide, tw_158, ⟨tyX6, tyX6_ok⟩, nmX6, rfl, by decide +kernel, fun _ => rfl⟩
theorem fp_X6_15 : mFldP "PancakePort$Seen" 15 6 1 (.array .int) true := ⟨RX6, TX6, 4, rfl, inm_X6, by decide, tw_159, ⟨tyX6, tyX6_ok⟩, nmX6, rfl, by decide +kernel, fun _ => rfl⟩
theorem fp_X6_18 : mFldP "PancakePort$Seen" 18 6 2 (.array .int) true := ⟨RX6, TX6, 4, rfl, inm_X6, by decide, tw_160, ⟨tyX6, tyX6_ok⟩, nmX6, rfl, by decide +kernel, fun _ => rfl⟩
theorem fp_X6_21 : mFldP "PancakePort$Seen" 21 6 3 .int false := ⟨RX6, TX6, 4, rfl, inm_X6, by decide, tw_161, ⟨tyX6, tyX6_ok⟩, nmX6, rfl, by decide +kernel, fun h => by cases h⟩
theorem fp_X11_7 : mFldP "PancakePortModel" 7 11 0 (.array .int) true := ⟨RX11, TX11, 40, rfl, inm_X11, by decide, tw_828, ⟨tyX11, tyX11_ok⟩, nmX11, rfl, by decide +kernel, fun _ => rfl⟩
theorem fp_X11_13 : mFldP "PancakePortModel" 13 11 10 (.array .int) true := ⟨RX11, TX11, 40, rfl, inm_X11, by decide, tw_838, ⟨tyX11, tyX11_ok⟩, nmX11, rfl, by decide +kernel, fun _ => rfl⟩
theorem fp_X11_16 : mFldP "PancakePortModel" 16 11 11 (.array .int) true := ⟨RX11, TX11, 40, rfl, inm_X11, by decide, tw_839, ⟨tyX11, tyX11_ok⟩, nmX11, rfl, by decide +kernel, fun _ => rfl⟩
theorem fp_X11_19 : mFldP "PancakePortModel" 19 11 12 (.array .int) true := ⟨RX11, TX11, 40, rfl, inm_X11, by decide, tw_840, ⟨tyX11, tyX11_ok⟩, nmX11, rfl, by decide +kernel, fun _ => rfl⟩
theorem fp_X11_22 : mFldP "PancakePortModel" 22 11 13 (.array .int) true := ⟨RX11, TX11, 40, rfl, inm_X11, by decide, tw_841, ⟨tyX11, tyX11_ok⟩, nmX11, rfl, by decide +kernel, fun _ => rfl⟩
theorem fp_X11_25 : mFldP "PancakePortModel" 25 11 14 (.array .int) true := ⟨RX11, TX11, 40, rfl, inm_X11, by decide, tw_842, ⟨tyX11, tyX11_ok⟩, nmX11, rfl, by decide +kernel, fun _ => rfl⟩
theorem fp_X11_28 : mFldP "PancakePortModel" 28 11 15 (.array .int) true := ⟨RX11, TX11, 40, rfl, inm_X11, by decide, tw_843, ⟨tyX11, tyX11_ok⟩, nmX11, rfl, by decide +kernel, fun _ => rfl⟩
theorem fp_X11_31 : mFldP "PancakePortModel" 31 11 16 (.array .int) true := ⟨RX11, TX11, 40, rfl, inm_X11, by decide, tw_844, ⟨tyX11, tyX11_ok⟩, nmX11, rfl, by decide +kernel, fun _ => rfl⟩
theorem fp_X11_34 : mFldP "PancakePortModel" 34 11 17 (.array .int) true := ⟨RX11, TX11, 40, rfl, inm_X11, by decide, tw_845, ⟨tyX11, tyX11_ok⟩, nmX11, rfl, by decide +kernel, fun _ => rfl⟩
theorem fp_X11_37 : mFldP "PancakePortModel" 37 11 18 (.array .int) true := ⟨RX11, TX11, 40, rfl, inm_X11, by decide, tw_846, ⟨tyX11, tyX11_ok⟩, nmX11, rfl, by decide +kernel, fun _ => rfl⟩
theorem fp_X11_40 : mFldP "PancakePortModel" 40 11 19 (.array .int) true := ⟨RX11, TX11, 40, rfl, inm_X11, by decide, tw_847, ⟨tyX11, tyX11_ok⟩, nmX11, rfl, by decide +kernel, fun _ => rfl⟩
theorem fp_X11_43 : mFldP "PancakePortModel" 43 11 20 (.array .int) true := ⟨RX11, TX11, 40, rfl, inm_X11, by decide, tw_848, ⟨tyX11, tyX11_ok⟩, nmX11, rfl, by decide +kernel, fun _ => rfl⟩
theorem fp_X11_46 : mFldP "PancakePortModel" 46 11 23 (.array .int) true := ⟨RX11, TX11, 40, rfl, inm_X11, by decide, tw_851, ⟨tyX11, tyX11_ok⟩, nmX11, rfl, by decide +kernel, fun _ => rfl⟩
theorem fp_X11_49 : mFldP "PancakePortModel" 49 11 31 (.array .int) true := ⟨RX11, TX11, 40, rfl, inm_X11, by decide, tw_859, ⟨tyX11, tyX11_ok⟩, nmX11, rfl, by decide +kernel, fun _ => rfl⟩
theorem fp_X11_52 : mFldP "PancakePortModel" 52 11 32 (.array .int) true := ⟨RX11, TX11, 40, rfl, inm_X11, by decide, tw_860, ⟨tyX11, tyX11_ok⟩, nmX11, rfl, by decide +kernel, fun _ => rfl⟩
theorem fp_X11_55 : mFldP "PancakePortModel" 55 11 33 (.array .int) true := ⟨RX11, TX11, 40, rfl, inm_X11, by decide, tw_861, ⟨tyX11, tyX11_ok⟩, nmX11, rfl, by decide +kernel, fun _ => rfl⟩
theorem fp_X11_58 : mFldP "PancakePortModel" 58 11 34 (.array .int) true := ⟨RX11, TX11, 40, rfl, inm_X11, by decide, tw_862, ⟨tyX11, tyX11_ok⟩, nmX11, rfl, by decide +kernel, fun _ => rfl⟩
theorem fp_X11_61 : mFldP "PancakePortModel" 61 11 35 (.array .int) true := ⟨RX11, TX11, 40, rfl, inm_X11, by decide, tw_863, ⟨tyX11, tyX11_ok⟩, nmX11, rfl, by decide +kernel, fun _ => rfl⟩
theorem fp_X11_64 : mFldP "PancakePortModel" 64 11 36 (.array .int) true := ⟨RX11, TX11, 40, rfl, inm_X11, by decide, tw_864, ⟨tyX11, tyX11_ok⟩, nmX11, rfl, by decide +kernel, fun _ => rfl⟩
theorem fp_X11_67 : mFldP "PancakePortModel" 67 11 37 (.array .int) true := ⟨RX11, TX11, 40, rfl, inm_X11, by decide, tw_865, ⟨tyX11, tyX11_ok⟩, nmX11, rfl, by decide +kernel, fun _ => rfl⟩
theorem fp_X11_70 : mFldP "PancakePortModel" 70 11 38 (.array .int) true := ⟨RX11, TX11, 40, rfl, inm_X11, by decide, tw_866, ⟨tyX11, tyX11_ok⟩, nmX11, rfl, by decide +kernel, fun _ => rfl⟩
theorem fp_X11_73 : mFldP "PancakePortModel" 73 11 25 .int false := ⟨RX11, TX11, 40, rfl, inm_X11, by decide, tw_853, ⟨tyX11, tyX11_ok⟩, nmX11, rfl, by decide +kernel, fun h => by cases h⟩
theorem fp_X11_83 : mFldP "PancakePortModel" 83 11 1 .int false := ⟨RX11, TX11, 40, rfl, inm_X11, by decide, tw_829, ⟨tyX11, tyX11_ok⟩, nmX11, rfl, by decide +kernel, fun h => by cases h⟩
theorem fp_X11_98 : mFldP "PancakePortModel" 98 11 2 .int false := ⟨RX11, TX11, 40, rfl, inm_X11, by decide, tw_830, ⟨tyX11, tyX11_ok⟩, nmX11, rfl, by decide +kernel, fun h => by cases h⟩
theorem fp_X11_116 : mFldP "PancakePortModel" 116 11 3 .int false := ⟨RX11, TX11, 40, rfl, inm_X11, by decide, tw_831, ⟨tyX11, tyX11_ok⟩, nmX11, rfl, by decide +kernel, fun h => by cases h⟩
theorem fp_X11_119 : mFldP "PancakePortModel" 119 11 4 .int false := ⟨RX11, TX11, 40, rfl, inm_X11, by decide, tw_832, ⟨tyX11, tyX11_ok⟩, nmX11, rfl, by decide +kernel, fun h => by cases h⟩
theorem fp_X11_122 : mFldP "PancakePortModel" 122 11 5 .int false := ⟨RX11, TX11, 40, rfl, inm_X11, by decide, tw_833, ⟨tyX11, tyX11_ok⟩, nmX11, rfl, by decide +kernel, fun h => by cases h⟩
theorem fp_X11_125 : mFldP "PancakePortModel" 125 11 6 .int false := ⟨RX11, TX11, 40, rfl, inm_X11, by decide, tw_834, ⟨tyX11, tyX11_ok⟩, nmX11, rfl, by decide +kernel, fun h => by cases h⟩
theorem fp_X11_128 : mFldP "PancakePortModel" 128 11 7 .int false := ⟨RX11, TX11, 40, rfl, inm_X11, by decide, tw_835, ⟨tyX11, tyX11_ok⟩, nmX11, rfl, by decide +kernel, fun h => by cases h⟩
theorem fp_X11_131 : mFldP "PancakePortModel" 131 11 8 .int false := ⟨RX11, TX11, 40, rfl, inm_X11, by decide, tw_836, ⟨tyX11, tyX11_ok⟩, nmX11, rfl, by decide +kernel, fun h => by cases h⟩
theorem fp_X11_134 : mFldP "PancakePortModel" 134 11 22 .int false := ⟨RX11, TX11, 40, rfl, inm_X11, by decide, tw_850, ⟨tyX11, tyX11_ok⟩, nmX11, rfl, by decide +kernel, fun h => by cases h⟩
theorem fp_X11_137 : mFldP "PancakePortModel" 137 11 9 .int false := ⟨RX11, TX11, 40, rfl, inm_X11, by decide, tw_837, ⟨tyX11, tyX11_ok⟩, nmX11, rfl, by decide +kernel, fun h => by cases h⟩
theorem fp_X11_223 : mFldP "PancakePortModel" 223 11 21 .int false := ⟨RX11, TX11, 40, rfl, inm_X11, by decide, tw_849, ⟨tyX11, tyX11_ok⟩, nmX11, rfl, by decide +kernel, fun h => by cases h⟩
theorem fp_X11_251 : mFldP "PancakePortModel" 251 11 24 .int false := ⟨RX11, TX11, 40, rfl, inm_X11, by decide, tw_852, ⟨tyX11, tyX11_ok⟩, nmX11, rfl, by decide +kernel, fun h => by cases h⟩
theorem fp_X11_268 : mFldP "PancakePortModel" 268 11 26 .int false := ⟨RX11, TX11, 40, rfl, inm_X11, by decide, tw_854, ⟨tyX11, tyX11_ok⟩, nmX11, rfl, by decide +kernel, fun h => by cases h⟩
theorem fp_X11_271 : mFldP "PancakePortModel" 271 11 27 .int false := ⟨RX11, TX11, 40, rfl, inm_X11, by decide, tw_855, ⟨tyX11, tyX11_ok⟩, nmX11, rfl, by decide +kernel, fun h => by cases h⟩
theorem fp_X11_274 : mFldP "PancakePortModel" 274 11 28 .int false := ⟨RX11, TX11, 40, rfl, inm_X11, by decide, tw_856, ⟨tyX11, tyX11_ok⟩, nmX11, rfl, by decide +kernel, fun h => by cases h⟩
theorem fp_X11_277 : mFldP "PancakePortModel" 277 11 29 .int false := ⟨RX11, TX11, 40, rfl, inm_X11, by decide, tw_857, ⟨tyX11, tyX11_ok⟩, nmX11, rfl, by decide +kernel, fun h => by cases h⟩
theorem fp_X11_280 : mFldP "PancakePortModel" 280 11 30 .int false := ⟨RX11, TX11, 40, rfl, inm_X11, by decide, tw_858, ⟨tyX11, tyX11_ok⟩, nmX11, rfl, by decide +kernel, fun h => by cases h⟩
theorem fp_X11_292 : mFldP "PancakePortModel" 292 11 39 .long false := ⟨RX11, TX11, 40, rfl, inm_X11, by decide, tw_867, ⟨tyX11, tyX11_ok⟩, nmX11, rfl, by decide +kernel, fun h => by cases h⟩
