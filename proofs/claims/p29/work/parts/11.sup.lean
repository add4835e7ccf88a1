def oC {α : Type} (o : Option Nat) (a : α) (b : Nat → α) : α := match o with
  | none => a
  | some x => b x
theorem mNe {x k : Int32} {z : Int} (hz : k.toInt = z) (h : ¬ x = k) : x.toInt ≠ z := fun e => h (Int32.toInt_inj.mp (e.trans hz.symm))
def kO (w : mW) (o : Option Nat) (ci : Nat) : Option Nat := match o with
  | none => none
  | some a => match w[a]? with
    | some (.inl c) => if c.1 = ci then some a else none
    | _ => none
theorem kO_spec {w : mW} {o : Option Nat} {ci q : Nat} (h : kO w o ci = some q) : o = some q ∧ ∃ fs : List mV, w[q]? = some (.inl (ci, fs)) := by
  unfold kO at h
  split at h
  · cases h
  · split at h
    · rename_i c hc
      split at h
      · rename_i hci
        cases h
        exact ⟨rfl, c.2, by rw [hc, ← hci]⟩
      · cases h
    · cases h
def mKind (i : Int32) : Option Int32 := if i.toNatClampNeg < 5 ∧ ¬ i < 0 then some (([116, 108, 119, 104, 109] : List Int32).getD i.toNatClampNeg 0) else none
theorem ev_bL {X : mXs} {M : mM} {d : Nat} {r : Option mV} {w' : mW} {pc q : Nat} {L : List (Option mV)} {st : List mV} {w : mW} {i v : Int32} (hd : decode M.2.1 pc = .ok (.baload, 1)) (h : mKind i = some v) (hq : pc + 1 = q) (kk : mEv X M d r w' q L (vi v :: st) w) : mEv X M d r w' pc L (vi i :: vx 2 :: st) w := by
  unfold mKind at h
  split at h
  · rename_i hi
    cases h
    exact ev_bld hd hq (vp_in_mk hi) rfl kk
  · cases h
abbrev tw_obji := tw_49
abbrev tw_mathi := tw_33
abbrev tw_objc := tw_50
abbrev M_X10_at : mM := (yX10_at, cX10_at, 2, (some .int))
theorem cal_X10_at : mCal M_X10_at 2 := ⟨tw_253, tw_25, ⟨by decide, by decide, by decide +kernel⟩, by decide⟩
abbrev M_X10_cellAt : mM := (yX10_cellAt, cX10_cellAt, 3, (some .int))
theorem cal_X10_cellAt : mCal M_X10_cellAt 2 := ⟨tw_268, tw_25, ⟨by decide, by decide, by decide +kernel⟩, by decide⟩
abbrev M_X10_clear : mM := (yX10_clear, cX10_clear, 2, none)
theorem cal_X10_clear : mCal M_X10_clear 1 := ⟨tw_405, tw_25, ⟨by decide, by decide, by decide +kernel⟩, by decide⟩
abbrev M_X10_draw : mM := (yX10_draw, cX10_draw, 2, (some .int))
theorem cal_X10_draw : mCal M_X10_draw 2 := ⟨tw_653, tw_25, ⟨by decide, by decide, by decide +kernel⟩, by decide⟩
abbrev M_X10_hasPort : mM := (yX10_hasPort, cX10_hasPort, 1, (some .boolean))
theorem cal_X10_hasPort : mCal M_X10_hasPort 0 := ⟨tw_603, tw_25, ⟨by decide, by decide, by decide +kernel⟩, by decide⟩
abbrev M_X10_isColumn : mM := (yX10_isColumn, cX10_isColumn, 1, (some .boolean))
theorem cal_X10_isColumn : mCal M_X10_isColumn 1 := ⟨tw_572, tw_25, ⟨by decide, by decide, by decide +kernel⟩, by decide⟩
abbrev M_X10_isOfKind : mM := (yX10_isOfKind, cX10_isOfKind, 2, (some .boolean))
theorem cal_X10_isOfKind : mCal M_X10_isOfKind 2 := ⟨tw_587, tw_25, ⟨by decide, by decide, by decide +kernel⟩, by decide⟩
abbrev M_X10_isSleeper : mM := (yX10_isSleeper, cX10_isSleeper, 2, (some .boolean))
theorem cal_X10_isSleeper : mCal M_X10_isSleeper 1 := ⟨tw_451, tw_25, ⟨by decide, by decide, by decide +kernel⟩, by decide⟩
abbrev M_X10_isTurn : mM := (yX10_isTurn, cX10_isTurn, 1, (some .boolean))
theorem cal_X10_isTurn : mCal M_X10_isTurn 1 := ⟨tw_373, tw_25, ⟨by decide, by decide, by decide +kernel⟩, by decide⟩
abbrev M_X10_nextSeed : mM := (yX10_nextSeed, cX10_nextSeed, 1, (some .int))
theorem cal_X10_nextSeed : mCal M_X10_nextSeed 1 := ⟨tw_647, tw_25, ⟨by decide, by decide, by decide +kernel⟩, by decide⟩
abbrev M_X10_put : mM := (yX10_put, cX10_put, 3, none)
theorem cal_X10_put : mCal M_X10_put 3 := ⟨tw_271, tw_25, ⟨by decide, by decide, by decide +kernel⟩, by decide⟩
abbrev M_X10_sum : mM := (yX10_sum, cX10_sum, 3, (some .int))
theorem cal_X10_sum : mCal M_X10_sum 1 := ⟨tw_689, tw_25, ⟨by decide, by decide, by decide +kernel⟩, by decide⟩
abbrev M_X10_tosserAt : mM := (yX10_tosserAt, cX10_tosserAt, 3, (some (.object "PancakePort$Tosser")))
theorem cal_X10_tosserAt : mCal M_X10_tosserAt 1 := ⟨tw_464, tw_25, ⟨by decide, by decide, by decide +kernel⟩, by decide⟩
abbrev M_X0_batter : mM := (yX0_batter, cX0_batter, 1, (some .int))
theorem cal_X0_batter : mCal M_X0_batter 0 := ⟨tw_529, tw_38, ⟨by decide, by decide, by decide +kernel⟩, by decide⟩
abbrev M_X0_kind : mM := (yX0_kind, cX0_kind, 1, (some .int))
theorem cal_X0_kind : mCal M_X0_kind 0 := ⟨tw_512, tw_38, ⟨by decide, by decide, by decide +kernel⟩, by decide⟩
abbrev M_X1_batter : mM := (yX1_batter, cX1_batter, 1, (some .int))
theorem cal_X1_batter : mCal M_X1_batter 0 := ⟨tw_532, tw_41, ⟨by decide, by decide, by decide +kernel⟩, by decide⟩
abbrev M_X1_kind : mM := (yX1_kind, cX1_kind, 1, (some .int))
theorem cal_X1_kind : mCal M_X1_kind 0 := ⟨tw_515, tw_41, ⟨by decide, by decide, by decide +kernel⟩, by decide⟩
abbrev M_X5_isWhole : mM := (yX5_isWhole, cX5_isWhole, 1, (some .boolean))
theorem cal_X5_isWhole : mCal M_X5_isWhole 0 := ⟨tw_390, tw_27, ⟨by decide, by decide, by decide +kernel⟩, by decide⟩
abbrev M_X5_takesAfterSleeper : mM := (yX5_takesAfterSleeper, cX5_takesAfterSleeper, 2, (some .boolean))
theorem cal_X5_takesAfterSleeper : mCal M_X5_takesAfterSleeper 1 := ⟨tw_275, tw_27, ⟨by decide, by decide, by decide +kernel⟩, by decide⟩
abbrev M_X5_takesAfterTosser : mM := (yX5_takesAfterTosser, cX5_takesAfterTosser, 2, (some .boolean))
theorem cal_X5_takesAfterTosser : mCal M_X5_takesAfterTosser 1 := ⟨tw_381, tw_27, ⟨by decide, by decide, by decide +kernel⟩, by decide⟩
abbrev M_X5_takesRow : mM := (yX5_takesRow, cX5_takesRow, 2, (some .boolean))
theorem cal_X5_takesRow : mCal M_X5_takesRow 1 := ⟨tw_261, tw_27, ⟨by decide, by decide, by decide +kernel⟩, by decide⟩
abbrev M_X7_batter : mM := (yX7_batter, cX7_batter, 1, (some .int))
theorem cal_X7_batter : mCal M_X7_batter 0 := ⟨tw_535, tw_40, ⟨by decide, by decide, by decide +kernel⟩, by decide⟩
abbrev M_X7_kind : mM := (yX7_kind, cX7_kind, 1, (some .int))
theorem cal_X7_kind : mCal M_X7_kind 0 := ⟨tw_518, tw_40, ⟨by decide, by decide, by decide +kernel⟩, by decide⟩
abbrev M_X8_batter : mM := (yX8_batter, cX8_batter, 1, (some .int))
theorem cal_X8_batter : mCal M_X8_batter 0 := ⟨tw_539, tw_37, ⟨by decide, by decide, by decide +kernel⟩, by decide⟩
abbrev M_X8_kind : mM := (yX8_kind, cX8_kind, 1, (some .int))
theorem cal_X8_kind : mCal M_X8_kind 0 := ⟨tw_522, tw_37, ⟨by decide, by decide, by decide +kernel⟩, by decide⟩
abbrev M_X9_batter : mM := (yX9_batter, cX9_batter, 1, (some .int))
theorem cal_X9_batter : mCal M_X9_batter 0 := ⟨tw_538, tw_39, ⟨by decide, by decide, by decide +kernel⟩, by decide⟩
abbrev M_X9_kind : mM := (yX9_kind, cX9_kind, 1, (some .int))
theorem cal_X9_kind : mCal M_X9_kind 0 := ⟨tw_521, tw_39, ⟨by decide, by decide, by decide +kernel⟩, by decide⟩
abbrev M_L_after : mM := (yL_after, cL_after, 2, (some .long))
theorem cal_L_after : mCal M_L_after 1 := ⟨tw_729, tw_24, ⟨by decide, by decide, by decide +kernel⟩, by decide⟩
abbrev M_L_at : mM := (yL_at, cL_at, 2, (some .int))
theorem cal_L_at : mCal M_L_at 2 := ⟨tw_661, tw_24, ⟨by decide, by decide, by decide +kernel⟩, by decide⟩
abbrev M_L_bare : mM := (yL_bare, cL_bare, 4, (some .int))
theorem cal_L_bare : mCal M_L_bare 2 := ⟨tw_704, tw_24, ⟨by decide, by decide, by decide +kernel⟩, by decide⟩
abbrev M_L_batter : mM := (yL_batter, cL_batter, 1, (some .int))
theorem cal_L_batter : mCal M_L_batter 1 := ⟨tw_682, tw_24, ⟨by decide, by decide, by decide +kernel⟩, by decide⟩
abbrev M_L_cell : mM := (yL_cell, cL_cell, 2, (some .int))
theorem cal_L_cell : mCal M_L_cell 2 := ⟨tw_657, tw_24, ⟨by decide, by decide, by decide +kernel⟩, by decide⟩
abbrev M_L_in : mM := (yL_in, cL_in, 2, (some .boolean))
theorem cal_L_in : mCal M_L_in 2 := ⟨tw_707, tw_24, ⟨by decide, by decide, by decide +kernel⟩, by decide⟩
abbrev M_L_lands : mM := (yL_lands, cL_lands, 6, (some .int))
theorem cal_L_lands : mCal M_L_lands 4 := ⟨tw_698, tw_24, ⟨by decide, by decide, by decide +kernel⟩, by decide⟩
abbrev M_L_over : mM := (yL_over, cL_over, 6, (some .boolean))
theorem cal_L_over : mCal M_L_over 3 := ⟨tw_701, tw_24, ⟨by decide, by decide, by decide +kernel⟩, by decide⟩
abbrev M_L_size : mM := (yL_size, cL_size, 3, (some .int))
theorem cal_L_size : mCal M_L_size 1 := ⟨tw_710, tw_24, ⟨by decide, by decide, by decide +kernel⟩, by decide⟩
abbrev M_J6_bitCount_0f7a4 : mM := (yJ6_bitCount_0f7a4, cJ6_bitCount_0f7a4, 1, (some .int))
theorem cal_J6_bitCount_0f7a4 : mCal M_J6_bitCount_0f7a4 1 := ⟨tw_554, tw_42, ⟨by decide, by decide, by decide +kernel⟩, by decide⟩
abbrev M_J0_coder_7d493 : mM := (yJ0_coder_7d493, cJ0_coder_7d493, 1, (some .byte))
theorem cal_J0_coder_7d493 : mCal M_J0_coder_7d493 0 := ⟨tw_302, tw_31, ⟨by decide, by decide, by decide +kernel⟩, by decide⟩
abbrev M_J0_isLatin1_aae02 : mM := (yJ0_isLatin1_aae02, cJ0_isLatin1_aae02, 1, (some .boolean))
theorem cal_J0_isLatin1_aae02 : mCal M_J0_isLatin1_aae02 0 := ⟨tw_292, tw_31, ⟨by decide, by decide, by decide +kernel⟩, by decide⟩
abbrev M_J1_canEncode_9a6ad : mM := (yJ1_canEncode_9a6ad, cJ1_canEncode_9a6ad, 1, (some .boolean))
theorem cal_J1_canEncode_9a6ad : mCal M_J1_canEncode_9a6ad 1 := ⟨tw_308, tw_32, ⟨by decide, by decide, by decide +kernel⟩, by decide⟩
abbrev M_J1_indexOfChar_4cfef : mM := (yJ1_indexOfChar_4cfef, cJ1_indexOfChar_4cfef, 6, (some .int))
theorem cal_J1_indexOfChar_4cfef : mCal M_J1_indexOfChar_4cfef 4 := ⟨tw_317, tw_32, ⟨by decide, by decide, by decide +kernel⟩, by decide⟩
abbrev M_X10_as : mM := (yX10_as, cX10_as, 4, (some .int))
theorem cal_X10_as : mCal M_X10_as 2 := ⟨tw_584, tw_25, ⟨by decide, by decide, by decide +kernel⟩, by decide⟩
abbrev M_X10_columnBy : mM := (yX10_columnBy, cX10_columnBy, 3, (some .int))
theorem cal_X10_columnBy : mCal M_X10_columnBy 2 := ⟨tw_569, tw_25, ⟨by decide, by decide, by decide +kernel⟩, by decide⟩
abbrev M_X10_copy : mM := (yX10_copy, cX10_copy, 3, none)
theorem cal_X10_copy : mCal M_X10_copy 2 := ⟨tw_401, tw_25, ⟨by decide, by decide, by decide +kernel⟩, by decide⟩
abbrev M_X10_count : mM := (yX10_count, cX10_count, 2, (some .int))
theorem cal_X10_count : mCal M_X10_count 1 := ⟨tw_686, tw_25, ⟨by decide, by decide, by decide +kernel⟩, by decide⟩
abbrev M_X10_isCell : mM := (yX10_isCell, cX10_isCell, 2, (some .boolean))
theorem cal_X10_isCell : mCal M_X10_isCell 1 := ⟨tw_599, tw_25, ⟨by decide, by decide, by decide +kernel⟩, by decide⟩
abbrev M_X10_isTakenByAnother : mM := (yX10_isTakenByAnother, cX10_isTakenByAnother, 4, (some .boolean))
theorem cal_X10_isTakenByAnother : mCal M_X10_isTakenByAnother 2 := ⟨tw_501, tw_25, ⟨by decide, by decide, by decide +kernel⟩, by decide⟩
abbrev M_X10_landing : mM := (yX10_landing, cX10_landing, 6, (some .int))
theorem cal_X10_landing : mCal M_X10_landing 3 := ⟨tw_468, tw_25, ⟨by decide, by decide, by decide +kernel⟩, by decide⟩
abbrev M_X10_stir : mM := (yX10_stir, cX10_stir, 2, (some .int))
theorem cal_X10_stir : mCal M_X10_stir 1 := ⟨tw_628, tw_25, ⟨by decide, by decide, by decide +kernel⟩, by decide⟩
abbrev M_X10_train : mM := (yX10_train, cX10_train, 5, (some .int))
theorem cal_X10_train : mCal M_X10_train 3 := ⟨tw_623, tw_25, ⟨by decide, by decide, by decide +kernel⟩, by decide⟩
abbrev M_X10_wind : mM := (yX10_wind, cX10_wind, 3, (some .int))
theorem cal_X10_wind : mCal M_X10_wind 1 := ⟨tw_615, tw_25, ⟨by decide, by decide, by decide +kernel⟩, by decide⟩
abbrev M_X0_spreads : mM := (yX0_spreads, cX0_spreads, 3, (some .boolean))
theorem cal_X0_spreads : mCal M_X0_spreads 2 := ⟨tw_480, tw_38, ⟨by decide, by decide, by decide +kernel⟩, by decide⟩
abbrev M_X2_wake : mM := (yX2_wake, cX2_wake, 4, none)
theorem cal_X2_wake : mCal M_X2_wake 1 := ⟨tw_718, tw_28, ⟨by decide, by decide, by decide +kernel⟩, by decide⟩
abbrev M_X3_init : mM := (yX3_init, cX3_init, 1, none)
theorem cal_X3_init : mCal M_X3_init 0 := ⟨tw_55, tw_26, ⟨by decide, by decide, by decide +kernel⟩, by decide⟩
abbrev M_X3_append : mM := (yX3_append, cX3_append, 2, none)
theorem cal_X3_append : mCal M_X3_append 1 := ⟨tw_675, tw_26, ⟨by decide, by decide, by decide +kernel⟩, by decide⟩
abbrev M_X4_init : mM := (yX4_init, cX4_init, 1, none)
theorem cal_X4_init : mCal M_X4_init 0 := ⟨tw_187, tw_30, ⟨by decide, by decide, by decide +kernel⟩, by decide⟩
abbrev M_X5_init : mM := (yX5_init, cX5_init, 1, none)
theorem cal_X5_init : mCal M_X5_init 0 := ⟨tw_72, tw_27, ⟨by decide, by decide, by decide +kernel⟩, by decide⟩
abbrev M_X5_takesColumn : mM := (yX5_takesColumn, cX5_takesColumn, 4, (some .boolean))
theorem cal_X5_takesColumn : mCal M_X5_takesColumn 1 := ⟨tw_265, tw_27, ⟨by decide, by decide, by decide +kernel⟩, by decide⟩
abbrev M_X5_takesEast : mM := (yX5_takesEast, cX5_takesEast, 2, (some .boolean))
theorem cal_X5_takesEast : mCal M_X5_takesEast 1 := ⟨tw_377, tw_27, ⟨by decide, by decide, by decide +kernel⟩, by decide⟩
abbrev M_X5_takesSouth : mM := (yX5_takesSouth, cX5_takesSouth, 2, (some .boolean))
theorem cal_X5_takesSouth : mCal M_X5_takesSouth 1 := ⟨tw_370, tw_27, ⟨by decide, by decide, by decide +kernel⟩, by decide⟩
abbrev M_X6_init : mM := (yX6_init, cX6_init, 1, none)
theorem cal_X6_init : mCal M_X6_init 0 := ⟨tw_117, tw_29, ⟨by decide, by decide, by decide +kernel⟩, by decide⟩
abbrev M_X7_spreads : mM := (yX7_spreads, cX7_spreads, 3, (some .boolean))
theorem cal_X7_spreads : mCal M_X7_spreads 2 := ⟨tw_493, tw_40, ⟨by decide, by decide, by decide +kernel⟩, by decide⟩
abbrev M_X8_init : mM := (yX8_init, cX8_init, 1, none)
theorem cal_X8_init : mCal M_X8_init 0 := ⟨tw_417, tw_37, ⟨by decide, by decide, by decide +kernel⟩, by decide⟩
abbrev M_X8_spreads : mM := (yX8_spreads, cX8_spreads, 3, (some .boolean))
theorem cal_X8_spreads : mCal M_X8_spreads 2 := ⟨tw_496, tw_37, ⟨by decide, by decide, by decide +kernel⟩, by decide⟩
abbrev M_X9_spreads : mM := (yX9_spreads, cX9_spreads, 3, (some .boolean))
theorem cal_X9_spreads : mCal M_X9_spreads 2 := ⟨tw_489, tw_39, ⟨by decide, by decide, by decide +kernel⟩, by decide⟩
abbrev M_L_covers : mM := (yL_covers, cL_covers, 8, (some .int))
theorem cal_L_covers : mCal M_L_covers 5 := ⟨tw_695, tw_24, ⟨by decide, by decide, by decide +kernel⟩, by decide⟩
abbrev M_L_portText : mM := (yL_portText, cL_portText, 13, (some .int))
theorem cal_L_portText : mCal M_L_portText 5 := ⟨tw_664, tw_24, ⟨by decide, by decide, by decide +kernel⟩, by decide⟩
abbrev M_J0_length_8abf5 : mM := (yJ0_length_8abf5, cJ0_length_8abf5, 1, (some .int))
theorem cal_J0_length_8abf5 : mCal M_J0_length_8abf5 0 := ⟨tw_298, tw_31, ⟨by decide, by decide, by decide +kernel⟩, by decide⟩
abbrev M_J1_indexOf_4cfef : mM := (yJ1_indexOf_4cfef, cJ1_indexOf_4cfef, 4, (some .int))
theorem cal_J1_indexOf_4cfef : mCal M_J1_indexOf_4cfef 4 := ⟨tw_305, tw_32, ⟨by decide, by decide, by decide +kernel⟩, by decide⟩
abbrev M_X10_canLandAt : mM := (yX10_canLandAt, cX10_canLandAt, 4, (some .boolean))
theorem cal_X10_canLandAt : mCal M_X10_canLandAt 2 := ⟨tw_640, tw_25, ⟨by decide, by decide, by decide +kernel⟩, by decide⟩
abbrev M_X10_isToss : mM := (yX10_isToss, cX10_isToss, 3, (some .boolean))
theorem cal_X10_isToss : mCal M_X10_isToss 2 := ⟨tw_595, tw_25, ⟨by decide, by decide, by decide +kernel⟩, by decide⟩
abbrev M_X10_letter : mM := (yX10_letter, cX10_letter, 2, (some .int))
theorem cal_X10_letter : mCal M_X10_letter 1 := ⟨tw_671, tw_25, ⟨by decide, by decide, by decide +kernel⟩, by decide⟩
abbrev M_X10_morning : mM := (yX10_morning, cX10_morning, 2, (some .int))
theorem cal_X10_morning : mCal M_X10_morning 0 := ⟨tw_714, tw_25, ⟨by decide, by decide, by decide +kernel⟩, by decide⟩
abbrev M_X10_mostLeft : mM := (yX10_mostLeft, cX10_mostLeft, 6, (some .int))
theorem cal_X10_mostLeft : mCal M_X10_mostLeft 2 := ⟨tw_578, tw_25, ⟨by decide, by decide, by decide +kernel⟩, by decide⟩
abbrev M_X10_move : mM := (yX10_move, cX10_move, 4, (some .int))
theorem cal_X10_move : mCal M_X10_move 2 := ⟨tw_619, tw_25, ⟨by decide, by decide, by decide +kernel⟩, by decide⟩
abbrev M_X0_init : mM := (yX0_init, cX0_init, 1, none)
theorem cal_X0_init : mCal M_X0_init 0 := ⟨tw_414, tw_38, ⟨by decide, by decide, by decide +kernel⟩, by decide⟩
abbrev M_X1_spreads : mM := (yX1_spreads, cX1_spreads, 3, (some .boolean))
theorem cal_X1_spreads : mCal M_X1_spreads 2 := ⟨tw_486, tw_41, ⟨by decide, by decide, by decide +kernel⟩, by decide⟩
abbrev M_X2_init : mM := (yX2_init, cX2_init, 1, none)
theorem cal_X2_init : mCal M_X2_init 0 := ⟨tw_111, tw_28, ⟨by decide, by decide, by decide +kernel⟩, by decide⟩
abbrev M_X2_begin : mM := (yX2_begin, cX2_begin, 2, none)
theorem cal_X2_begin : mCal M_X2_begin 1 := ⟨tw_398, tw_28, ⟨by decide, by decide, by decide +kernel⟩, by decide⟩
abbrev M_X6_allows : mM := (yX6_allows, cX6_allows, 5, (some .boolean))
theorem cal_X6_allows : mCal M_X6_allows 2 := ⟨tw_565, tw_29, ⟨by decide, by decide, by decide +kernel⟩, by decide⟩
abbrev M_X7_init : mM := (yX7_init, cX7_init, 1, none)
theorem cal_X7_init : mCal M_X7_init 0 := ⟨tw_431, tw_40, ⟨by decide, by decide, by decide +kernel⟩, by decide⟩
abbrev M_X9_init : mM := (yX9_init, cX9_init, 1, none)
theorem cal_X9_init : mCal M_X9_init 0 := ⟨tw_424, tw_39, ⟨by decide, by decide, by decide +kernel⟩, by decide⟩
abbrev M_J0_indexOf_7cf53 : mM := (yJ0_indexOf_7cf53, cJ0_indexOf_7cf53, 3, (some .int))
theorem cal_J0_indexOf_7cf53 : mCal M_J0_indexOf_7cf53 2 := ⟨tw_288, tw_31, ⟨by decide, by decide, by decide +kernel⟩, by decide⟩
abbrev M_X10_init : mM := (yX10_init, cX10_init, 1, none)
theorem cal_X10_init : mCal M_X10_init 0 := ⟨tw_47, tw_25, ⟨by decide, by decide, by decide +kernel⟩, by decide⟩
abbrev M_X10_addChances : mM := (yX10_addChances, cX10_addChances, 6, none)
theorem cal_X10_addChances : mCal M_X10_addChances 2 := ⟨tw_473, tw_25, ⟨by decide, by decide, by decide +kernel⟩, by decide⟩
abbrev M_X10_crowdUnder : mM := (yX10_crowdUnder, cX10_crowdUnder, 9, (some .int))
theorem cal_X10_crowdUnder : mCal M_X10_crowdUnder 3 := ⟨tw_551, tw_25, ⟨by decide, by decide, by decide +kernel⟩, by decide⟩
abbrev M_X10_lands : mM := (yX10_lands, cX10_lands, 3, (some .int))
theorem cal_X10_lands : mCal M_X10_lands 2 := ⟨tw_591, tw_25, ⟨by decide, by decide, by decide +kernel⟩, by decide⟩
abbrev M_X10_tellingAim : mM := (yX10_tellingAim, cX10_tellingAim, 5, (some .int))
theorem cal_X10_tellingAim : mCal M_X10_tellingAim 1 := ⟨tw_575, tw_25, ⟨by decide, by decide, by decide +kernel⟩, by decide⟩
abbrev M_X10_who : mM := (yX10_who, cX10_who, 4, (some .int))
theorem cal_X10_who : mCal M_X10_who 1 := ⟨tw_636, tw_25, ⟨by decide, by decide, by decide +kernel⟩, by decide⟩
abbrev M_X1_init : mM := (yX1_init, cX1_init, 1, none)
theorem cal_X1_init : mCal M_X1_init 0 := ⟨tw_438, tw_41, ⟨by decide, by decide, by decide +kernel⟩, by decide⟩
abbrev M_X6_turnsOf : mM := (yX6_turnsOf, cX6_turnsOf, 4, (some .int))
theorem cal_X6_turnsOf : mCal M_X6_turnsOf 1 := ⟨tw_561, tw_29, ⟨by decide, by decide, by decide +kernel⟩, by decide⟩
abbrev M_L_spell : mM := (yL_spell, cL_spell, 4, (some .boolean))
theorem cal_L_spell : mCal M_L_spell 3 := ⟨tw_667, tw_24, ⟨by decide, by decide, by decide +kernel⟩, by decide⟩
abbrev M_J0_indexOf_0f7a4 : mM := (yJ0_indexOf_0f7a4, cJ0_indexOf_0f7a4, 2, (some .int))
theorem cal_J0_indexOf_0f7a4 : mCal M_J0_indexOf_0f7a4 1 := ⟨tw_284, tw_31, ⟨by decide, by decide, by decide +kernel⟩, by decide⟩
abbrev M_X10_countChances : mM := (yX10_countChances, cX10_countChances, 5, none)
theorem cal_X10_countChances : mCal M_X10_countChances 0 := ⟨tw_459, tw_25, ⟨by decide, by decide, by decide +kernel⟩, by decide⟩
abbrev M_X10_covers : mM := (yX10_covers, cX10_covers, 3, (some .int))
theorem cal_X10_covers : mCal M_X10_covers 2 := ⟨tw_607, tw_25, ⟨by decide, by decide, by decide +kernel⟩, by decide⟩
abbrev M_X10_freshOf : mM := (yX10_freshOf, cX10_freshOf, 3, (some .int))
theorem cal_X10_freshOf : mCal M_X10_freshOf 2 := ⟨tw_547, tw_25, ⟨by decide, by decide, by decide +kernel⟩, by decide⟩
abbrev M_X10_odds : mM := (yX10_odds, cX10_odds, 6, (some .int))
theorem cal_X10_odds : mCal M_X10_odds 3 := ⟨tw_632, tw_25, ⟨by decide, by decide, by decide +kernel⟩, by decide⟩
abbrev M_X10_seasons : mM := (yX10_seasons, cX10_seasons, 11, (some .int))
theorem cal_X10_seasons : mCal M_X10_seasons 3 := ⟨tw_644, tw_25, ⟨by decide, by decide, by decide +kernel⟩, by decide⟩
abbrev M_X10_toss : mM := (yX10_toss, cX10_toss, 5, (some .int))
theorem cal_X10_toss : mCal M_X10_toss 2 := ⟨tw_611, tw_25, ⟨by decide, by decide, by decide +kernel⟩, by decide⟩
abbrev M_X10_tosserOf : mM := (yX10_tosserOf, cX10_tosserOf, 1, (some (.object "PancakePort$Tosser")))
theorem cal_X10_tosserOf : mCal M_X10_tosserOf 1 := ⟨tw_409, tw_25, ⟨by decide, by decide, by decide +kernel⟩, by decide⟩
abbrev M_X5_takesKind : mM := (yX5_takesKind, cX5_takesKind, 3, (some .boolean))
theorem cal_X5_takesKind : mCal M_X5_takesKind 1 := ⟨tw_279, tw_27, ⟨by decide, by decide, by decide +kernel⟩, by decide⟩
abbrev M_X10_bestAimOf : mM := (yX10_bestAimOf, cX10_bestAimOf, 6, (some .int))
theorem cal_X10_bestAimOf : mCal M_X10_bestAimOf 1 := ⟨tw_543, tw_25, ⟨by decide, by decide, by decide +kernel⟩, by decide⟩
abbrev M_X10_bestPlaceFor : mM := (yX10_bestPlaceFor, cX10_bestPlaceFor, 6, (some .int))
theorem cal_X10_bestPlaceFor : mCal M_X10_bestPlaceFor 1 := ⟨tw_455, tw_25, ⟨by decide, by decide, by decide +kernel⟩, by decide⟩
abbrev M_X10_settle : mM := (yX10_settle, cX10_settle, 2, none)
theorem cal_X10_settle : mCal M_X10_settle 0 := ⟨tw_394, tw_25, ⟨by decide, by decide, by decide +kernel⟩, by decide⟩
abbrev M_X5_takes : mM := (yX5_takes, cX5_takes, 2, (some .boolean))
theorem cal_X5_takes : mCal M_X5_takes 1 := ⟨tw_257, tw_27, ⟨by decide, by decide, by decide +kernel⟩, by decide⟩
abbrev M_L_does : mM := (yL_does, cL_does, 9, (some .boolean))
theorem cal_L_does : mCal M_L_does 4 := ⟨tw_692, tw_24, ⟨by decide, by decide, by decide +kernel⟩, by decide⟩
abbrev M_L_lies : mM := (yL_lies, cL_lies, 11, (some .boolean))
theorem cal_L_lies : mCal M_L_lies 5 := ⟨tw_723, tw_24, ⟨by decide, by decide, by decide +kernel⟩, by decide⟩
abbrev M_L_seasons : mM := (yL_seasons, cL_seasons, 13, (some .boolean))
theorem cal_L_seasons : mCal M_L_seasons 5 := ⟨tw_726, tw_24, ⟨by decide, by decide, by decide +kernel⟩, by decide⟩
abbrev M_X10_sleeper : mM := (yX10_sleeper, cX10_sleeper, 3, (some .int))
theorem cal_X10_sleeper : mCal M_X10_sleeper 2 := ⟨tw_447, tw_25, ⟨by decide, by decide, by decide +kernel⟩, by decide⟩
abbrev M_X10_tosser : mM := (yX10_tosser, cX10_tosser, 4, (some .int))
theorem cal_X10_tosser : mCal M_X10_tosser 2 := ⟨tw_505, tw_25, ⟨by decide, by decide, by decide +kernel⟩, by decide⟩
abbrev M_X5_read : mM := (yX5_read, cX5_read, 4, (some .int))
theorem cal_X5_read : mCal M_X5_read 1 := ⟨tw_250, tw_27, ⟨by decide, by decide, by decide +kernel⟩, by decide⟩
abbrev M_X10_fault : mM := (yX10_fault, cX10_fault, 1, (some .int))
theorem cal_X10_fault : mCal M_X10_fault 0 := ⟨tw_246, tw_25, ⟨by decide, by decide, by decide +kernel⟩, by decide⟩
abbrev M_X10_port : mM := (yX10_port, cX10_port, 1, (some .int))
theorem cal_X10_port : mCal M_X10_port 0 := ⟨tw_386, tw_25, ⟨by decide, by decide, by decide +kernel⟩, by decide⟩
abbrev M_L_stands : mM := (yL_stands, cL_stands, 5, (some .boolean))
theorem cal_L_stands : mCal M_L_stands 3 := ⟨tw_679, tw_24, ⟨by decide, by decide, by decide +kernel⟩, by decide⟩
theorem inm_X0 : ∀ w ∈ u_ws RX0 TX0 0, w ∈ mWS := fun _ h => by cases h
def new_X0 : List mV := []
theorem new_X0_ok (g : mG) (j : Nat) (h : j < 0) : defaultValue (tyX0 j) = vp_V (new_X0.map (mt g)) j := absurd h (Nat.not_lt_zero j)
theorem inm_X1 : ∀ w ∈ u_ws RX1 TX1 0, w ∈ mWS := fun _ h => by cases h
def new_X1 : List mV := []
theorem new_X1_ok (g : mG) (j : Nat) (h : j < 0) : defaultValue (tyX1 j) = vp_V (new_X1.map (mt g)) j := absurd h (Nat.not_lt_zero j)
set_option maxRecDepth 100000 in
theorem inm_X2 : ∀ w ∈ u_ws RX2 TX2 12, w ∈ mWS := by
  intro w hw
  obtain ⟨k, hk, rfl⟩ := List.mem_map.mp hw
  have hk := List.mem_range.mp hk
  match k, hk with
  | 0, _ => exact tw_158
  | 1, _ => exact tw_160
  | 2, _ => exact tw_162
  | 3, _ => exact tw_164
  | 4, _ => exact tw_166
  | 5, _ => exact tw_168
  | 6, _ => exact tw_170
  | 7, _ => exact tw_172
  | 8, _ => exact tw_174
  | 9, _ => exact tw_176
  | 10, _ => exact tw_178
  | 11, _ => exact tw_180
  | k + 12, hk => exact absurd hk (by omega)
def new_X2 : List mV := [vr none, vr none, vr none, vr none, vr none, vr none, vr none, vi 0, vi 0, vi 0, vi 0, vi 0]
theorem new_X2_ok (g : mG) (j : Nat) (h : j < 12) : defaultValue (tyX2 j) = vp_V (new_X2.map (mt g)) j := by
  match j, h with
  | 0, _ => rfl
  | 1, _ => rfl
  | 2, _ => rfl
  | 3, _ => rfl
  | 4, _ => rfl
  | 5, _ => rfl
  | 6, _ => rfl
  | 7, _ => rfl
  | 8, _ => rfl
  | 9, _ => rfl
  | 10, _ => rfl
  | 11, _ => rfl
  | j + 12, h => exact absurd h (by omega)
set_option maxRecDepth 100000 in
theorem inm_X3 : ∀ w ∈ u_ws RX3 TX3 2, w ∈ mWS := by
  intro w hw
  obtain ⟨k, hk, rfl⟩ := List.mem_map.mp hw
  have hk := List.mem_range.mp hk
  match k, hk with
  | 0, _ => exact tw_62
  | 1, _ => exact tw_64
  | k + 2, hk => exact absurd hk (by omega)
def new_X3 : List mV := [vr none, vi 0]
theorem new_X3_ok (g : mG) (j : Nat) (h : j < 2) : defaultValue (tyX3 j) = vp_V (new_X3.map (mt g)) j := by
  match j, h with
  | 0, _ => rfl
  | 1, _ => rfl
  | j + 2, h => exact absurd h (by omega)
set_option maxRecDepth 100000 in
theorem inm_X4 : ∀ w ∈ u_ws RX4 TX4 7, w ∈ mWS := by
  intro w hw
  obtain ⟨k, hk, rfl⟩ := List.mem_map.mp hw
  have hk := List.mem_range.mp hk
  match k, hk with
  | 0, _ => exact tw_194
  | 1, _ => exact tw_196
  | 2, _ => exact tw_198
  | 3, _ => exact tw_200
  | 4, _ => exact tw_202
  | 5, _ => exact tw_204
  | 6, _ => exact tw_206
  | k + 7, hk => exact absurd hk (by omega)
def new_X4 : List mV := [vr none, vr none, vr none, vr none, vr none, vi 0, vi 0]
theorem new_X4_ok (g : mG) (j : Nat) (h : j < 7) : defaultValue (tyX4 j) = vp_V (new_X4.map (mt g)) j := by
  match j, h with
  | 0, _ => rfl
  | 1, _ => rfl
  | 2, _ => rfl
  | 3, _ => rfl
  | 4, _ => rfl
  | 5, _ => rfl
  | 6, _ => rfl
  | j + 7, h => exact absurd h (by omega)
set_option maxRecDepth 100000 in
theorem inm_X5 : ∀ w ∈ u_ws RX5 TX5 8, w ∈ mWS := by
  intro w hw
  obtain ⟨k, hk, rfl⟩ := List.mem_map.mp hw
  have hk := List.mem_range.mp hk
  match k, hk with
  | 0, _ => exact tw_88
  | 1, _ => exact tw_90
  | 2, _ => exact tw_92
  | 3, _ => exact tw_94
  | 4, _ => exact tw_96
  | 5, _ => exact tw_98
  | 6, _ => exact tw_100
  | 7, _ => exact tw_102
  | k + 8, hk => exact absurd hk (by omega)
def new_X5 : List mV := [vr none, vr none, vr none, vr none, vi 0, vi 0, vi 0, vi 0]
theorem new_X5_ok (g : mG) (j : Nat) (h : j < 8) : defaultValue (tyX5 j) = vp_V (new_X5.map (mt g)) j := by
  match j, h with
  | 0, _ => rfl
  | 1, _ => rfl
  | 2, _ => rfl
  | 3, _ => rfl
  | 4, _ => rfl
  | 5, _ => rfl
  | 6, _ => rfl
  | 7, _ => rfl
  | j + 8, h => exact absurd h (by omega)
set_option maxRecDepth 100000 in
theorem inm_X6 : ∀ w ∈ u_ws RX6 TX6 4, w ∈ mWS := by
  intro w hw
  obtain ⟨k, hk, rfl⟩ := List.mem_map.mp hw
  have hk := List.mem_range.mp hk
  match k, hk with
  | 0, _ => exact tw_125
  | 1, _ => exact tw_127
  | 2, _ => exact tw_129
  | 3, _ => exact tw_131
  | k + 4, hk => exact absurd hk (by omega)
def new_X6 : List mV := [vr none, vr none, vr none, vi 0]
theorem new_X6_ok (g : mG) (j : Nat) (h : j < 4) : defaultValue (tyX6 j) = vp_V (new_X6.map (mt g)) j := by
  match j, h with
  | 0, _ => rfl
  | 1, _ => rfl
  | 2, _ => rfl
  | 3, _ => rfl
  | j + 4, h => exact absurd h (by omega)
theorem inm_X7 : ∀ w ∈ u_ws RX7 TX7 0, w ∈ mWS := fun _ h => by cases h
def new_X7 : List mV := []
theorem new_X7_ok (g : mG) (j : Nat) (h : j < 0) : defaultValue (tyX7 j) = vp_V (new_X7.map (mt g)) j := absurd h (Nat.not_lt_zero j)
theorem inm_X8 : ∀ w ∈ u_ws RX8 TX8 0, w ∈ mWS := fun _ h => by cases h
def new_X8 : List mV := []
theorem new_X8_ok (g : mG) (j : Nat) (h : j < 0) : defaultValue (tyX8 j) = vp_V (new_X8.map (mt g)) j := absurd h (Nat.not_lt_zero j)
theorem inm_X9 : ∀ w ∈ u_ws RX9 TX9 0, w ∈ mWS := fun _ h => by cases h
def new_X9 : List mV := []
theorem new_X9_ok (g : mG) (j : Nat) (h : j < 0) : defaultValue (tyX9 j) = vp_V (new_X9.map (mt g)) j := absurd h (Nat.not_lt_zero j)
set_option maxRecDepth 100000 in
theorem inm_X10 : ∀ w ∈ u_ws RX10 TX10 11, w ∈ mWS := by
  intro w hw
  obtain ⟨k, hk, rfl⟩ := List.mem_map.mp hw
  have hk := List.mem_range.mp hk
  match k, hk with
  | 0, _ => exact tw_220
  | 1, _ => exact tw_222
  | 2, _ => exact tw_224
  | 3, _ => exact tw_226
  | 4, _ => exact tw_228
  | 5, _ => exact tw_230
  | 6, _ => exact tw_232
  | 7, _ => exact tw_234
  | 8, _ => exact tw_236
  | 9, _ => exact tw_238
  | 10, _ => exact tw_240
  | k + 11, hk => exact absurd hk (by omega)
def new_X10 : List mV := [vr none, vr none, vr none, vr none, vr none, vr none, vr none, vi 0, vi 0, vi 0, vi 0]
theorem new_X10_ok (g : mG) (j : Nat) (h : j < 11) : defaultValue (tyX10 j) = vp_V (new_X10.map (mt g)) j := by
  match j, h with
  | 0, _ => rfl
  | 1, _ => rfl
  | 2, _ => rfl
  | 3, _ => rfl
  | 4, _ => rfl
  | 5, _ => rfl
  | 6, _ => rfl
  | 7, _ => rfl
  | 8, _ => rfl
  | 9, _ => rfl
  | 10, _ => rfl
  | j + 11, h => exact absurd h (by omega)
theorem inm_X11 : ∀ w ∈ u_ws RX11 TX11 0, w ∈ mWS := fun _ h => by cases h
def new_X11 : List mV := []
theorem new_X11_ok (g : mG) (j : Nat) (h : j < 0) : defaultValue (tyX11 j) = vp_V (new_X11.map (mt g)) j := absurd h (Nat.not_lt_zero j)
theorem fl_X10_10 : mFld "PancakePort" 10 10 0 := ⟨RX10, TX10, 11, rfl, inm_X10, by decide, tw_209⟩
theorem fl_X10_19 : mFld "PancakePort" 19 10 1 := ⟨RX10, TX10, 11, rfl, inm_X10, by decide, tw_210⟩
theorem fl_X10_25 : mFld "PancakePort" 25 10 2 := ⟨RX10, TX10, 11, rfl, inm_X10, by decide, tw_211⟩
theorem fl_X10_32 : mFld "PancakePort" 32 10 3 := ⟨RX10, TX10, 11, rfl, inm_X10, by decide, tw_212⟩
theorem fl_X10_46 : mFld "PancakePort" 46 10 6 := ⟨RX10, TX10, 11, rfl, inm_X10, by decide, tw_215⟩
theorem fl_X10_50 : mFld "PancakePort" 50 3 1 := ⟨RX3, TX3, 2, rfl, inm_X3, by decide, tw_60⟩
theorem fl_X10_69 : mFld "PancakePort" 69 10 9 := ⟨RX10, TX10, 11, rfl, inm_X10, by decide, tw_218⟩
theorem fl_X10_72 : mFld "PancakePort" 72 10 7 := ⟨RX10, TX10, 11, rfl, inm_X10, by decide, tw_216⟩
theorem fl_X10_79 : mFld "PancakePort" 79 2 0 := ⟨RX2, TX2, 12, rfl, inm_X2, by decide, tw_135⟩
theorem fl_X10_86 : mFld "PancakePort" 86 2 7 := ⟨RX2, TX2, 12, rfl, inm_X2, by decide, tw_149⟩
theorem fl_X10_89 : mFld "PancakePort" 89 2 1 := ⟨RX2, TX2, 12, rfl, inm_X2, by decide, tw_137⟩
theorem fl_X10_92 : mFld "PancakePort" 92 2 2 := ⟨RX2, TX2, 12, rfl, inm_X2, by decide, tw_139⟩
theorem fl_X10_107 : mFld "PancakePort" 107 2 3 := ⟨RX2, TX2, 12, rfl, inm_X2, by decide, tw_141⟩
theorem fl_X10_110 : mFld "PancakePort" 110 2 4 := ⟨RX2, TX2, 12, rfl, inm_X2, by decide, tw_143⟩
theorem fl_X10_123 : mFld "PancakePort" 123 2 6 := ⟨RX2, TX2, 12, rfl, inm_X2, by decide, tw_147⟩
theorem fl_X10_135 : mFld "PancakePort" 135 2 5 := ⟨RX2, TX2, 12, rfl, inm_X2, by decide, tw_145⟩
theorem fl_X10_146 : mFld "PancakePort" 146 2 8 := ⟨RX2, TX2, 12, rfl, inm_X2, by decide, tw_151⟩
theorem fl_X10_159 : mFld "PancakePort" 159 2 9 := ⟨RX2, TX2, 12, rfl, inm_X2, by decide, tw_153⟩
theorem fl_X10_161 : mFld "PancakePort" 161 2 11 := ⟨RX2, TX2, 12, rfl, inm_X2, by decide, tw_157⟩
theorem fl_X10_176 : mFld "PancakePort" 176 2 10 := ⟨RX2, TX2, 12, rfl, inm_X2, by decide, tw_155⟩
theorem fl_X10_197 : mFld "PancakePort" 197 10 8 := ⟨RX10, TX10, 11, rfl, inm_X10, by decide, tw_217⟩
theorem fl_X10_206 : mFld "PancakePort" 206 6 3 := ⟨RX6, TX6, 4, rfl, inm_X6, by decide, tw_124⟩
theorem fl_X10_262 : mFld "PancakePort" 262 5 4 := ⟨RX5, TX5, 8, rfl, inm_X5, by decide, tw_83⟩
theorem fl_X10_265 : mFld "PancakePort" 265 5 5 := ⟨RX5, TX5, 8, rfl, inm_X5, by decide, tw_85⟩
theorem fl_X10_271 : mFld "PancakePort" 271 5 1 := ⟨RX5, TX5, 8, rfl, inm_X5, by decide, tw_77⟩
theorem fl_X2_9 : mFld "PancakePort$Night" 9 2 0 := ⟨RX2, TX2, 12, rfl, inm_X2, by decide, tw_134⟩
theorem fl_X2_15 : mFld "PancakePort$Night" 15 2 1 := ⟨RX2, TX2, 12, rfl, inm_X2, by decide, tw_136⟩
theorem fl_X2_18 : mFld "PancakePort$Night" 18 2 2 := ⟨RX2, TX2, 12, rfl, inm_X2, by decide, tw_138⟩
theorem fl_X2_21 : mFld "PancakePort$Night" 21 2 3 := ⟨RX2, TX2, 12, rfl, inm_X2, by decide, tw_140⟩
theorem fl_X2_24 : mFld "PancakePort$Night" 24 2 4 := ⟨RX2, TX2, 12, rfl, inm_X2, by decide, tw_142⟩
theorem fl_X2_27 : mFld "PancakePort$Night" 27 2 5 := ⟨RX2, TX2, 12, rfl, inm_X2, by decide, tw_144⟩
theorem fl_X2_33 : mFld "PancakePort$Night" 33 2 6 := ⟨RX2, TX2, 12, rfl, inm_X2, by decide, tw_146⟩
theorem fl_X2_37 : mFld "PancakePort$Night" 37 5 0 := ⟨RX5, TX5, 8, rfl, inm_X5, by decide, tw_75⟩
theorem fl_X2_44 : mFld "PancakePort$Night" 44 5 2 := ⟨RX5, TX5, 8, rfl, inm_X5, by decide, tw_79⟩
theorem fl_X2_45 : mFld "PancakePort$Night" 45 5 3 := ⟨RX5, TX5, 8, rfl, inm_X5, by decide, tw_81⟩
theorem fl_X2_54 : mFld "PancakePort$Night" 54 2 7 := ⟨RX2, TX2, 12, rfl, inm_X2, by decide, tw_148⟩
theorem fl_X2_63 : mFld "PancakePort$Night" 63 2 10 := ⟨RX2, TX2, 12, rfl, inm_X2, by decide, tw_154⟩
theorem fl_X3_9 : mFld "PancakePort$Page" 9 3 0 := ⟨RX3, TX3, 2, rfl, inm_X3, by decide, tw_57⟩
theorem fl_X3_15 : mFld "PancakePort$Page" 15 3 1 := ⟨RX3, TX3, 2, rfl, inm_X3, by decide, tw_59⟩
theorem fl_X5_9 : mFld "PancakePort$Reading" 9 5 0 := ⟨RX5, TX5, 8, rfl, inm_X5, by decide, tw_74⟩
theorem fl_X5_15 : mFld "PancakePort$Reading" 15 5 1 := ⟨RX5, TX5, 8, rfl, inm_X5, by decide, tw_76⟩
theorem fl_X5_18 : mFld "PancakePort$Reading" 18 5 2 := ⟨RX5, TX5, 8, rfl, inm_X5, by decide, tw_78⟩
theorem fl_X5_21 : mFld "PancakePort$Reading" 21 5 3 := ⟨RX5, TX5, 8, rfl, inm_X5, by decide, tw_80⟩
theorem fl_X5_24 : mFld "PancakePort$Reading" 24 5 4 := ⟨RX5, TX5, 8, rfl, inm_X5, by decide, tw_82⟩
theorem fl_X5_28 : mFld "PancakePort$Reading" 28 5 5 := ⟨RX5, TX5, 8, rfl, inm_X5, by decide, tw_84⟩
theorem fl_X5_31 : mFld "PancakePort$Reading" 31 5 7 := ⟨RX5, TX5, 8, rfl, inm_X5, by decide, tw_87⟩
theorem fl_X5_34 : mFld "PancakePort$Reading" 34 3 1 := ⟨RX3, TX3, 2, rfl, inm_X3, by decide, tw_61⟩
theorem fl_X5_39 : mFld "PancakePort$Reading" 39 3 0 := ⟨RX3, TX3, 2, rfl, inm_X3, by decide, tw_58⟩
theorem fl_X5_71 : mFld "PancakePort$Reading" 71 5 6 := ⟨RX5, TX5, 8, rfl, inm_X5, by decide, tw_86⟩
theorem fl_X6_9 : mFld "PancakePort$Seen" 9 6 0 := ⟨RX6, TX6, 4, rfl, inm_X6, by decide, tw_119⟩
theorem fl_X6_15 : mFld "PancakePort$Seen" 15 6 1 := ⟨RX6, TX6, 4, rfl, inm_X6, by decide, tw_120⟩
theorem fl_X6_18 : mFld "PancakePort$Seen" 18 6 2 := ⟨RX6, TX6, 4, rfl, inm_X6, by decide, tw_121⟩
theorem fl_X6_21 : mFld "PancakePort$Seen" 21 6 3 := ⟨RX6, TX6, 4, rfl, inm_X6, by decide, tw_123⟩
theorem fp_X10_10 : mFldP "PancakePort" 10 10 0 (.object "PancakePort$Page") true := ⟨RX10, TX10, 11, rfl, inm_X10, by decide, tw_209, ⟨tyX10, tyX10_ok⟩, nmX10, rfl, by decide +kernel, fun _ => rfl⟩
theorem fp_X10_19 : mFldP "PancakePort" 19 10 1 (.object "PancakePort$Reading") true := ⟨RX10, TX10, 11, rfl, inm_X10, by decide, tw_210, ⟨tyX10, tyX10_ok⟩, nmX10, rfl, by decide +kernel, fun _ => rfl⟩
theorem fp_X10_25 : mFldP "PancakePort" 25 10 2 (.array (.object "PancakePort$Tosser")) true := ⟨RX10, TX10, 11, rfl, inm_X10, by decide, tw_211, ⟨tyX10, tyX10_ok⟩, nmX10, rfl, by decide +kernel, fun _ => rfl⟩
theorem fp_X10_32 : mFldP "PancakePort" 32 10 3 (.object "PancakePort$Night") true := ⟨RX10, TX10, 11, rfl, inm_X10, by decide, tw_212, ⟨tyX10, tyX10_ok⟩, nmX10, rfl, by decide +kernel, fun _ => rfl⟩
theorem fp_X10_36 : mFldP "PancakePort" 36 10 4 (.object "PancakePort$Night") true := ⟨RX10, TX10, 11, rfl, inm_X10, by decide, tw_213, ⟨tyX10, tyX10_ok⟩, nmX10, rfl, by decide +kernel, fun _ => rfl⟩
theorem fp_X10_42 : mFldP "PancakePort" 42 10 5 (.object "PancakePort$Plan") true := ⟨RX10, TX10, 11, rfl, inm_X10, by decide, tw_214, ⟨tyX10, tyX10_ok⟩, nmX10, rfl, by decide +kernel, fun _ => rfl⟩
theorem fp_X10_46 : mFldP "PancakePort" 46 10 6 (.array .int) true := ⟨RX10, TX10, 11, rfl, inm_X10, by decide, tw_215, ⟨tyX10, tyX10_ok⟩, nmX10, rfl, by decide +kernel, fun _ => rfl⟩
theorem fp_X10_50 : mFldP "PancakePort" 50 3 1 .int false := ⟨RX3, TX3, 2, rfl, inm_X3, by decide, tw_60, ⟨tyX3, tyX3_ok⟩, nmX3, rfl, by decide +kernel, fun h => by cases h⟩
theorem fp_X10_69 : mFldP "PancakePort" 69 10 9 .int false := ⟨RX10, TX10, 11, rfl, inm_X10, by decide, tw_218, ⟨tyX10, tyX10_ok⟩, nmX10, rfl, by decide +kernel, fun h => by cases h⟩
theorem fp_X10_72 : mFldP "PancakePort" 72 10 7 .int false := ⟨RX10, TX10, 11, rfl, inm_X10, by decide, tw_216, ⟨tyX10, tyX10_ok⟩, nmX10, rfl, by decide +kernel, fun h => by cases h⟩
theorem fp_X10_86 : mFldP "PancakePort" 86 2 7 .int false := ⟨RX2, TX2, 12, rfl, inm_X2, by decide, tw_149, ⟨tyX2, tyX2_ok⟩, nmX2, rfl, by decide +kernel, fun h => by cases h⟩
theorem fp_X10_146 : mFldP "PancakePort" 146 2 8 .int false := ⟨RX2, TX2, 12, rfl, inm_X2, by decide, tw_151, ⟨tyX2, tyX2_ok⟩, nmX2, rfl, by decide +kernel, fun h => by cases h⟩
theorem fp_X10_159 : mFldP "PancakePort" 159 2 9 .int false := ⟨RX2, TX2, 12, rfl, inm_X2, by decide, tw_153, ⟨tyX2, tyX2_ok⟩, nmX2, rfl, by decide +kernel, fun h => by cases h⟩
theorem fp_X10_161 : mFldP "PancakePort" 161 2 11 .int false := ⟨RX2, TX2, 12, rfl, inm_X2, by decide, tw_157, ⟨tyX2, tyX2_ok⟩, nmX2, rfl, by decide +kernel, fun h => by cases h⟩
theorem fp_X10_197 : mFldP "PancakePort" 197 10 8 .int false := ⟨RX10, TX10, 11, rfl, inm_X10, by decide, tw_217, ⟨tyX10, tyX10_ok⟩, nmX10, rfl, by decide +kernel, fun h => by cases h⟩
theorem fp_X10_223 : mFldP "PancakePort" 223 10 10 .boolean false := ⟨RX10, TX10, 11, rfl, inm_X10, by decide, tw_219, ⟨tyX10, tyX10_ok⟩, nmX10, rfl, by decide +kernel, fun h => by cases h⟩
theorem fp_X2_9 : mFldP "PancakePort$Night" 9 2 0 (.array .int) true := ⟨RX2, TX2, 12, rfl, inm_X2, by decide, tw_134, ⟨tyX2, tyX2_ok⟩, nmX2, rfl, by decide +kernel, fun _ => rfl⟩
theorem fp_X2_15 : mFldP "PancakePort$Night" 15 2 1 (.array .int) true := ⟨RX2, TX2, 12, rfl, inm_X2, by decide, tw_136, ⟨tyX2, tyX2_ok⟩, nmX2, rfl, by decide +kernel, fun _ => rfl⟩
theorem fp_X2_18 : mFldP "PancakePort$Night" 18 2 2 (.array .int) true := ⟨RX2, TX2, 12, rfl, inm_X2, by decide, tw_138, ⟨tyX2, tyX2_ok⟩, nmX2, rfl, by decide +kernel, fun _ => rfl⟩
theorem fp_X2_21 : mFldP "PancakePort$Night" 21 2 3 (.array .int) true := ⟨RX2, TX2, 12, rfl, inm_X2, by decide, tw_140, ⟨tyX2, tyX2_ok⟩, nmX2, rfl, by decide +kernel, fun _ => rfl⟩
theorem fp_X2_24 : mFldP "PancakePort$Night" 24 2 4 (.array .int) true := ⟨RX2, TX2, 12, rfl, inm_X2, by decide, tw_142, ⟨tyX2, tyX2_ok⟩, nmX2, rfl, by decide +kernel, fun _ => rfl⟩
theorem fp_X2_27 : mFldP "PancakePort$Night" 27 2 5 (.array .int) true := ⟨RX2, TX2, 12, rfl, inm_X2, by decide, tw_144, ⟨tyX2, tyX2_ok⟩, nmX2, rfl, by decide +kernel, fun _ => rfl⟩
theorem fp_X2_33 : mFldP "PancakePort$Night" 33 2 6 (.object "PancakePort$Seen") true := ⟨RX2, TX2, 12, rfl, inm_X2, by decide, tw_146, ⟨tyX2, tyX2_ok⟩, nmX2, rfl, by decide +kernel, fun _ => rfl⟩
theorem fp_X2_50 : mFldP "PancakePort$Night" 50 6 3 .int false := ⟨RX6, TX6, 4, rfl, inm_X6, by decide, tw_122, ⟨tyX6, tyX6_ok⟩, nmX6, rfl, by decide +kernel, fun h => by cases h⟩
theorem fp_X2_54 : mFldP "PancakePort$Night" 54 2 7 .int false := ⟨RX2, TX2, 12, rfl, inm_X2, by decide, tw_148, ⟨tyX2, tyX2_ok⟩, nmX2, rfl, by decide +kernel, fun h => by cases h⟩
theorem fp_X2_57 : mFldP "PancakePort$Night" 57 2 8 .int false := ⟨RX2, TX2, 12, rfl, inm_X2, by decide, tw_150, ⟨tyX2, tyX2_ok⟩, nmX2, rfl, by decide +kernel, fun h => by cases h⟩
theorem fp_X2_60 : mFldP "PancakePort$Night" 60 2 9 .int false := ⟨RX2, TX2, 12, rfl, inm_X2, by decide, tw_152, ⟨tyX2, tyX2_ok⟩, nmX2, rfl, by decide +kernel, fun h => by cases h⟩
theorem fp_X2_63 : mFldP "PancakePort$Night" 63 2 10 .int false := ⟨RX2, TX2, 12, rfl, inm_X2, by decide, tw_154, ⟨tyX2, tyX2_ok⟩, nmX2, rfl, by decide +kernel, fun h => by cases h⟩
theorem fp_X2_66 : mFldP "PancakePort$Night" 66 2 11 .int false := ⟨RX2, TX2, 12, rfl, inm_X2, by decide, tw_156, ⟨tyX2, tyX2_ok⟩, nmX2, rfl, by decide +kernel, fun h => by cases h⟩
theorem fp_X3_9 : mFldP "PancakePort$Page" 9 3 0 (.array .int) true := ⟨RX3, TX3, 2, rfl, inm_X3, by decide, tw_57, ⟨tyX3, tyX3_ok⟩, nmX3, rfl, by decide +kernel, fun _ => rfl⟩
theorem fp_X3_15 : mFldP "PancakePort$Page" 15 3 1 .int false := ⟨RX3, TX3, 2, rfl, inm_X3, by decide, tw_59, ⟨tyX3, tyX3_ok⟩, nmX3, rfl, by decide +kernel, fun h => by cases h⟩
theorem fp_X4_9 : mFldP "PancakePort$Plan" 9 4 0 (.array .int) true := ⟨RX4, TX4, 7, rfl, inm_X4, by decide, tw_189, ⟨tyX4, tyX4_ok⟩, nmX4, rfl, by decide +kernel, fun _ => rfl⟩
theorem fp_X4_15 : mFldP "PancakePort$Plan" 15 4 1 (.array .int) true := ⟨RX4, TX4, 7, rfl, inm_X4, by decide, tw_190, ⟨tyX4, tyX4_ok⟩, nmX4, rfl, by decide +kernel, fun _ => rfl⟩
theorem fp_X4_18 : mFldP "PancakePort$Plan" 18 4 2 (.array .int) true := ⟨RX4, TX4, 7, rfl, inm_X4, by decide, tw_191, ⟨tyX4, tyX4_ok⟩, nmX4, rfl, by decide +kernel, fun _ => rfl⟩
theorem fp_X4_21 : mFldP "PancakePort$Plan" 21 4 3 (.array .int) true := ⟨RX4, TX4, 7, rfl, inm_X4, by decide, tw_192, ⟨tyX4, tyX4_ok⟩, nmX4, rfl, by decide +kernel, fun _ => rfl⟩
theorem fp_X4_24 : mFldP "PancakePort$Plan" 24 4 4 (.array .int) true := ⟨RX4, TX4, 7, rfl, inm_X4, by decide, tw_193, ⟨tyX4, tyX4_ok⟩, nmX4, rfl, by decide +kernel, fun _ => rfl⟩
theorem fp_X5_9 : mFldP "PancakePort$Reading" 9 5 0 (.array .int) true := ⟨RX5, TX5, 8, rfl, inm_X5, by decide, tw_74, ⟨tyX5, tyX5_ok⟩, nmX5, rfl, by decide +kernel, fun _ => rfl⟩
theorem fp_X5_15 : mFldP "PancakePort$Reading" 15 5 1 (.array .int) true := ⟨RX5, TX5, 8, rfl, inm_X5, by decide, tw_76, ⟨tyX5, tyX5_ok⟩, nmX5, rfl, by decide +kernel, fun _ => rfl⟩
theorem fp_X5_18 : mFldP "PancakePort$Reading" 18 5 2 (.array .int) true := ⟨RX5, TX5, 8, rfl, inm_X5, by decide, tw_78, ⟨tyX5, tyX5_ok⟩, nmX5, rfl, by decide +kernel, fun _ => rfl⟩
theorem fp_X5_21 : mFldP "PancakePort$Reading" 21 5 3 (.array .int) true := ⟨RX5, TX5, 8, rfl, inm_X5, by decide, tw_80, ⟨tyX5, tyX5_ok⟩, nmX5, rfl, by decide +kernel, fun _ => rfl⟩
theorem fp_X5_24 : mFldP "PancakePort$Reading" 24 5 4 .int false := ⟨RX5, TX5, 8, rfl, inm_X5, by decide, tw_82, ⟨tyX5, tyX5_ok⟩, nmX5, rfl, by decide +kernel, fun h => by cases h⟩
theorem fp_X5_28 : mFldP "PancakePort$Reading" 28 5 5 .int false := ⟨RX5, TX5, 8, rfl, inm_X5, by decide, tw_84, ⟨tyX5, tyX5_ok⟩, nmX5, rfl, by decide +kernel, fun h => by cases h⟩
theorem fp_X5_31 : mFldP "PancakePort$Reading" 31 5 7 .int false := ⟨RX5, TX5, 8, rfl, inm_X5, by decide, tw_87, ⟨tyX5, tyX5_ok⟩, nmX5, rfl, by decide +kernel, fun h => by cases h⟩
theorem fp_X5_71 : mFldP "PancakePort$Reading" 71 5 6 .int false := ⟨RX5, TX5, 8, rfl, inm_X5, by decide, tw_86, ⟨tyX5, tyX5_ok⟩, nmX5, rfl, by decide +kernel, fun h => by cases h⟩
theorem fp_X6_9 : mFldP "PancakePort$Seen" 9 6 0 (.array .int) true := ⟨RX6, TX6, 4, rfl, inm_X6, by decide, tw_119, ⟨tyX6, tyX6_ok⟩, nmX6, rfl, by decide +kernel, fun _ => rfl⟩
theorem fp_X6_15 : mFldP "PancakePort$Seen" 15 6 1 (.array .int) true := ⟨RX6, TX6, 4, rfl, inm_X6, by decide, tw_120, ⟨tyX6, tyX6_ok⟩, nmX6, rfl, by decide +kernel, fun _ => rfl⟩
theorem fp_X6_18 : mFldP "PancakePort$Seen" 18 6 2 (.array .int) true := ⟨RX6, TX6, 4, rfl, inm_X6, by decide, tw_121, ⟨tyX6, tyX6_ok⟩, nmX6, rfl, by decide +kernel, fun _ => rfl⟩
