/-! THE CHECK: each instruction of the tables is what the class files say, and its words are among the claim's (a function to Bool, method by method) -/
abbrev MI : Type := MethodName × ByteArray × Nat × Option FieldType × List (Nat × Nat × Nat × Nat) × Bool × Nat
def LTg : List Cond := lw_tbl.filter goodWord
theorem LTg_in {w : Cond} (h : w ∈ LTg) : w ∈ lw_tbl := (List.mem_filter.mp h).1
theorem LTg_good : GoodIn LTg LTg := fun _ h => ⟨h, good_of_word (List.mem_filter.mp h).2⟩
def wdI (p : Nat) (w : Cond) : Bool := decide (lw_tbl[p]? = some w) && goodWord w
theorem wdI_ok {p : Nat} {w : Cond} (h : wdI p w = true) : w ∈ LTg := by
  unfold wdI at h
  rw [Bool.and_eq_true] at h
  exact List.mem_filter.mpr ⟨List.mem_of_getElem? (of_decide_eq_true h.1), h.2⟩
def wnI (p : Nat) (w : Cond) : Bool := decide (lw_tbl[p]? = some w)
theorem wnI_ok {p : Nat} {w : Cond} (h : wnI p w = true) : w ∈ lw_tbl := List.mem_of_getElem? (of_decide_eq_true h)
def strT : List (String × Nat × String) := [("HoopFair$FairReader", 32, "block"), ("HoopFair$FairReader", 80, "side"), ("HoopFair$FairReader", 82, "prize"), ("HoopFair$FairReader", 84, "velvet"), ("HoopFair$FairReader", 51, "hoop"), ("HoopFair$FairReader", 90, "oval"), ("HoopFair$FairReader", 104, "wet"), ("HoopFair$FairReader", 59, "person"), ("HoopFair$FairReader", 109, "price"), ("HoopFair$FairReader", 114, "bounce"), ("HoopFair$FairReader", 118, "knock"), ("HoopFair$FairReader", 122, "counts"), ("HoopFair", 126, "the text of the fair is wrong"), ("HoopFair", 136, "there are 12 texts"), ("HoopFair$LawReader", 88, "far"), ("HoopFair$LawReader", 90, "short"), ("HoopFair$LawReader", 92, "right"), ("HoopFair$LawReader", 94, "left"), ("HoopFair$LawReader", 96, "spread"), ("HoopFair$LawReader", 98, "strict"), ("HoopFair$LawReader", 74, "if"), ("HoopFair$LawReader", 100, "and"), ("HoopFair$LawReader", 110, "not"), ("HoopFair$LawReader", 112, "wet"), ("HoopFair$LawReader", 124, "who"), ("HoopFair$LawReader", 126, "hoop"), ("HoopFair$LawReader", 128, "from"), ("HoopFair$LawReader", 130, "height"), ("HoopFair$LawReader", 132, "pace"), ("HoopFair$LawReader", 134, "skill"), ("HoopFair$LawReader", 136, "throws"), ("HoopFair$LawReader", 108, "or"), ("HoopFair", 145, "the text of the law is wrong"), ("HoopFair", 455, "there is no such block"), ("HoopFair", 166, "a block has no such thing"), ("HoopFair", 458, "there is no such hoop"), ("HoopFair", 186, "a hoop has no such thing"), ("HoopFair", 460, "there is no such person"), ("HoopFair", 197, "a person has no such thing"), ("HoopFair", 462, "a number is none"), ("HoopFair", 206, "a throw has no such thing"), ("HoopFair", 289, "the block would overlap another one"), ("HoopFair", 224, "a hoop that lies has no such thing"), ("HoopFair", 337, "a way to throw has no such thing"), ("HoopFair", 380, "a game is of a hoop and a block at least"), ("HoopFair", 382, "a game has no such thing"), ("HoopFair", 399, "the tape tells no gauge"), ("HoopFair", 414, "both blocks are one"), ("HoopFair", 232, "a row of the log has no such thing"), ("HoopFairModel", 226, "far"), ("HoopFairModel", 228, "short"), ("HoopFairModel", 230, "right"), ("HoopFairModel", 232, "left"), ("HoopFairModel", 234, "spread"), ("HoopFairModel", 236, "strict"), ("HoopFairModel", 238, "if"), ("HoopFairModel", 207, "not"), ("HoopFairModel", 129, "wet"), ("HoopFairModel", 187, "who"), ("HoopFairModel", 136, "hoop"), ("HoopFairModel", 189, "from"), ("HoopFairModel", 191, "height"), ("HoopFairModel", 192, "pace"), ("HoopFairModel", 193, "skill"), ("HoopFairModel", 195, "throws"), ("HoopFairModel", 219, "and"), ("HoopFairModel", 224, "or"), ("HoopFairModel", 131, "block"), ("HoopFairModel", 114, "side"), ("HoopFairModel", 120, "prize"), ("HoopFairModel", 122, "velvet"), ("HoopFairModel", 124, "oval"), ("HoopFairModel", 141, "person"), ("HoopFairModel", 146, "price"), ("HoopFairModel", 152, "bounce"), ("HoopFairModel", 154, "knock"), ("HoopFairModel", 156, "counts")]
/-- the throws: class of the place, its pool numbers (class, text, constructor), class thrown, its code, the text's number -/
def thrT : List (String × Nat × Nat × Nat × String × Nat × Nat × Bool) := [("HoopFair", 124, 126, 128, "java/lang/IllegalArgumentException", 2, 13, false), ("HoopFair", 124, 145, 128, "java/lang/IllegalArgumentException", 2, 33, false), ("HoopFair", 124, 206, 128, "java/lang/IllegalArgumentException", 2, 41, false), ("HoopFair", 124, 399, 128, "java/lang/IllegalArgumentException", 2, 47, true), ("HoopFair", 124, 414, 128, "java/lang/IllegalArgumentException", 2, 48, true), ("HoopFair", 124, 462, 128, "java/lang/IllegalArgumentException", 2, 40, true), ("HoopFair", 134, 136, 138, "java/lang/UnsupportedOperationException", 5, 14, false), ("HoopFair", 164, 166, 168, "java/util/NoSuchElementException", 4, 35, false), ("HoopFair", 164, 186, 168, "java/util/NoSuchElementException", 4, 37, false), ("HoopFair", 164, 197, 168, "java/util/NoSuchElementException", 4, 39, false), ("HoopFair", 164, 224, 168, "java/util/NoSuchElementException", 4, 43, false), ("HoopFair", 164, 232, 168, "java/util/NoSuchElementException", 4, 49, false), ("HoopFair", 164, 337, 168, "java/util/NoSuchElementException", 4, 44, true), ("HoopFair", 164, 382, 168, "java/util/NoSuchElementException", 4, 46, true), ("HoopFair", 287, 289, 291, "java/lang/IllegalStateException", 3, 42, true), ("HoopFair", 287, 380, 291, "java/lang/IllegalStateException", 3, 45, true), ("HoopFair", 453, 455, 457, "java/lang/IndexOutOfBoundsException", 1, 34, true), ("HoopFair", 453, 458, 457, "java/lang/IndexOutOfBoundsException", 1, 36, true), ("HoopFair", 453, 460, 457, "java/lang/IndexOutOfBoundsException", 1, 38, true)]
def mi_0 : MI := (yX0_init, cX0_init, 2, none, [], false, 1)
def mi_1 : MI := (yX0_stand, cX0_stand, 5, none, [], false, 4)
def mi_2 : MI := (yX0_raise, cX0_raise, 3, none, [], false, 2)
def mi_3 : MI := (yX0_grow, cX0_grow, 1, none, [], false, 0)
def mi_4 : MI := (yX0_mindsHeight, cX0_mindsHeight, 1, (some (.boolean)), [], false, 0)
def mi_5 : MI := (yX0_fact, cX0_fact, 2, (some (.int)), [], false, 1)
def mi_6 : MI := (yX0_setFact, cX0_setFact, 3, none, [], false, 2)
def mi_7 : MI := (yX0_sum, cX0_sum, 2, (some (.int)), [], false, 1)
def mi_8 : MI := (yX0_x, cX0_x, 1, (some (.int)), [], false, 0)
def mi_9 : MI := (yX0_y, cX0_y, 1, (some (.int)), [], false, 0)
def mi_10 : MI := (yX0_spread, cX0_spread, 1, (some (.int)), [], false, 0)
def mi_11 : MI := (yX0_strict, cX0_strict, 1, (some (.int)), [], false, 0)
def mi_12 : MI := (yX0_reckon, cX0_reckon, 3, none, [], false, 0)
def mi_13 : MI := (yX0_reckonStep, cX0_reckonStep, 4, none, [], false, 2)
def mi_14 : MI := (yX0_joined, cX0_joined, 3, (some (.int)), [], true, 3)
def mi_15 : MI := (yX0_add, cX0_add, 3, none, [], false, 2)
def mi_16 : MI := (yX0_push, cX0_push, 2, none, [], false, 1)
def mi_17 : MI := (yX0_pop, cX0_pop, 1, (some (.int)), [], false, 0)
def mi_18 : MI := (yX1_init, cX1_init, 2, none, [], false, 1)
def mi_19 : MI := (yX1_reads, cX1_reads, 3, (some (.boolean)), [], false, 1)
def mi_20 : MI := (yX1_readsLine, cX1_readsLine, 2, (some (.boolean)), [], false, 1)
def mi_21 : MI := (yX1_opens, cX1_opens, 3, (some (.boolean)), [], false, 1)
def mi_22 : MI := (yX1_readsBlock, cX1_readsBlock, 3, (some (.boolean)), [], false, 1)
def mi_23 : MI := (yX1_readsHoop, cX1_readsHoop, 4, (some (.boolean)), [], false, 1)
def mi_24 : MI := (yX1_puts, cX1_puts, 6, (some (.boolean)), [], false, 4)
def mi_25 : MI := (yX1_readsSetting, cX1_readsSetting, 3, (some (.boolean)), [], false, 1)
def mi_26 : MI := (yX2_init, cX2_init, 1, none, [], false, 0)
def mi_27 : MI := (yX2_reads, cX2_reads, 5, (some (.boolean)), [], false, 1)
def mi_28 : MI := (yX2_kinds, cX2_kinds, 1, (some (.int)), [], false, 0)
def mi_29 : MI := (yX2_kindsWith, cX2_kindsWith, 6, (some (.int)), [], true, 2)
def mi_30 : MI := (yX2_sidesOf, cX2_sidesOf, 4, (some (.int)), [], true, 2)
def mi_31 : MI := (yX2_nextSide, cX2_nextSide, 6, (some (.int)), [], false, 0)
def mi_32 : MI := (yX3_init, cX3_init, 4, none, [], false, 3)
def mi_33 : MI := (yX3_lines, cX3_lines, 1, (some (.int)), [], false, 0)
def mi_34 : MI := (yX3_length, cX3_length, 1, (some (.int)), [], false, 0)
def mi_35 : MI := (yX3_at, cX3_at, 2, (some (.int)), [], false, 1)
def mi_36 : MI := (yX3_minds, cX3_minds, 2, (some (.boolean)), [], false, 1)
def mi_37 : MI := (yX4_init, cX4_init, 2, none, [], false, 1)
def mi_38 : MI := (yX4_made, cX4_made, 2, (some ((.object "HoopFair$Law"))), [], false, 0)
def mi_39 : MI := (yX4_reads, cX4_reads, 1, (some (.boolean)), [], false, 0)
def mi_40 : MI := (yX4_readsLine, cX4_readsLine, 3, (some (.boolean)), [], false, 0)
def mi_41 : MI := (yX4_takeSum, cX4_takeSum, 1, (some (.int)), [], false, 0)
def mi_42 : MI := (yX4_emit, cX4_emit, 3, none, [], false, 2)
def mi_43 : MI := (yX4_readsAny, cX4_readsAny, 4, (some (.boolean)), [], false, 1)
def mi_44 : MI := (yX4_readsAtom, cX4_readsAtom, 3, (some (.boolean)), [], false, 1)
def mi_45 : MI := (yX4_readsSum, cX4_readsSum, 4, (some (.boolean)), [], false, 0)
def mi_46 : MI := (yX4_emitFact, cX4_emitFact, 2, none, [], false, 1)
def mi_47 : MI := (yX4_emitJoint, cX4_emitJoint, 3, none, [], false, 2)
def mi_48 : MI := (yX4_takeFact, cX4_takeFact, 1, (some (.int)), [], false, 0)
def mi_49 : MI := (yX5_init, cX5_init, 1, none, [], false, 0)
def mi_50 : MI := (yX5_forget, cX5_forget, 1, none, [], false, 0)
def mi_51 : MI := (yX5_tally, cX5_tally, 9, (some (.boolean)), [], false, 2)
def mi_52 : MI := (yX5_countsAt, cX5_countsAt, 6, (some (.int)), [], false, 3)
def mi_53 : MI := (yX5_waysOf, cX5_waysOf, 2, (some (.int)), [], false, 1)
def mi_54 : MI := (yX5_waysOfAny, cX5_waysOfAny, 3, (some (.int)), [], false, 0)
def mi_55 : MI := (yX5_oddsOf, cX5_oddsOf, 2, (some (.int)), [], false, 1)
def mi_56 : MI := (yX5_worthBy, cX5_worthBy, 4, (some (.int)), [], false, 1)
def mi_57 : MI := (yX5_sweep, cX5_sweep, 6, none, [], false, 2)
def mi_58 : MI := (yX5_compare, cX5_compare, 5, none, [], false, 3)
def mi_59 : MI := (yX5_bestOf, cX5_bestOf, 3, (some (.int)), [], false, 2)
def mi_60 : MI := (yX5_bestWorth, cX5_bestWorth, 1, (some (.int)), [], false, 0)
def mi_61 : MI := (yX5_reach, cX5_reach, 1, (some (.int)), [], false, 0)
def mi_62 : MI := (yX6_init, cX6_init, 3, none, [], false, 1)
def mi_63 : MI := (yX6_size, cX6_size, 1, (some (.int)), [], false, 0)
def mi_64 : MI := (yX6_remember, cX6_remember, 2, none, [], false, 1)
def mi_65 : MI := (yX6_takeBack, cX6_takeBack, 3, (some (.boolean)), [], false, 1)
def mi_66 : MI := (yX6_forget, cX6_forget, 1, none, [], false, 0)
def mi_67 : MI := (yX7_init, cX7_init, 3, none, [], false, 2)
def mi_68 : MI := (yX7_leastOf, cX7_leastOf, 2, (some (.int)), [], false, 1)
def mi_69 : MI := (yX7_setLeast, cX7_setLeast, 3, none, [], false, 2)
def mi_70 : MI := (yX7_reachFrom, cX7_reachFrom, 2, (some (.int)), [], false, 1)
def mi_71 : MI := (yX7_bestPlace, cX7_bestPlace, 8, (some (.int)), [], false, 4)
def mi_72 : MI := (yX7_fewestPlaces, cX7_fewestPlaces, 7, (some (.int)), [], false, 4)
def mi_73 : MI := (yX7_cover, cX7_cover, 6, none, [], false, 1)
def mi_74 : MI := (yX7_placeOf, cX7_placeOf, 7, (some (.int)), [], false, 2)
def mi_75 : MI := (yX7_leastSide, cX7_leastSide, 5, (some (.int)), [], false, 2)
def mi_76 : MI := (yX7_arrange, cX7_arrange, 8, (some (.int)), [], false, 2)
def mi_77 : MI := (yX7_costOf, cX7_costOf, 5, (some (.int)), [], false, 3)
def mi_78 : MI := (yX7_prizeFor, cX7_prizeFor, 6, (some (.int)), [], false, 2)
def mi_79 : MI := (yX7_firstFor, cX7_firstFor, 4, (some (.int)), [], false, 2)
def mi_80 : MI := (yX7_throwsTillSure, cX7_throwsTillSure, 5, (some (.int)), [], false, 2)
def mi_81 : MI := (yX7_bestStop, cX7_bestStop, 7, (some (.int)), [], false, 2)
def mi_82 : MI := (yX7_weigh, cX7_weigh, 6, none, [], false, 4)
def mi_83 : MI := (yX7_weighBlocks, cX7_weighBlocks, 5, none, [], false, 2)
def mi_84 : MI := (yX7_isGiven, cX7_isGiven, 2, (some (.boolean)), [], false, 1)
def mi_85 : MI := (yX7_worthAt, cX7_worthAt, 4, (some (.int)), [], false, 2)
def mi_86 : MI := (yX7_leastAt, cX7_leastAt, 4, (some (.int)), [], false, 1)
def mi_87 : MI := (yX7_mostWith, cX7_mostWith, 4, (some (.int)), [], false, 1)
def mi_88 : MI := (yX7_surelyWon, cX7_surelyWon, 3, (some (.int)), [], false, 0)
def mi_89 : MI := (yX7_surelyLost, cX7_surelyLost, 3, (some (.int)), [], false, 0)
def mi_90 : MI := (yX7_rests, cX7_rests, 5, (some (.int)), [], false, 0)
def mi_91 : MI := (yX8_init, cX8_init, 3, none, [], false, 2)
def mi_92 : MI := (yX8_size, cX8_size, 1, (some (.int)), [], false, 0)
def mi_93 : MI := (yX8_has, cX8_has, 2, (some (.boolean)), [], false, 1)
def mi_94 : MI := (yX8_isFull, cX8_isFull, 1, (some (.boolean)), [], false, 0)
def mi_95 : MI := (yX8_asBits, cX8_asBits, 1, (some (.int)), [], false, 0)
def mi_96 : MI := (yX8_at, cX8_at, 5, (some (.int)), [], false, 2)
def mi_97 : MI := (yX8_put, cX8_put, 6, none, [], false, 3)
def mi_98 : MI := (yX8_putLast, cX8_putLast, 3, none, [], false, 2)
def mi_99 : MI := (yX8_open, cX8_open, 3, (some (.int)), [], false, 0)
def mi_100 : MI := (yX8_remove, cX8_remove, 5, none, [], false, 1)
def mi_101 : MI := (yX8_empty, cX8_empty, 1, none, [], false, 0)
def mi_102 : MI := (yX8_copyFrom, cX8_copyFrom, 3, none, [], false, 1)
def mi_103 : MI := (yX9_init, cX9_init, 2, none, [], false, 1)
def mi_104 : MI := (yX9_copyFrom, cX9_copyFrom, 2, none, [], false, 1)
def mi_105 : MI := (yX9_throwsOfAll, cX9_throwsOfAll, 3, (some (.int)), [], false, 0)
def mi_106 : MI := (yX9_along, cX9_along, 3, (some (.int)), [], false, 2)
def mi_107 : MI := (yX9_deep, cX9_deep, 3, (some (.int)), [], false, 2)
def mi_108 : MI := (yX9_isOver, cX9_isOver, 7, (some (.boolean)), [], true, 5)
def mi_109 : MI := (yX9_isTouching, cX9_isTouching, 5, (some (.boolean)), [], true, 5)
def mi_110 : MI := (yX9_widest, cX9_widest, 4, (some (.int)), [], false, 1)
def mi_111 : MI := (yX9_leastAcross, cX9_leastAcross, 4, (some (.int)), [], false, 2)
def mi_112 : MI := (yX9_spotsOf, cX9_spotsOf, 6, (some (.int)), [], false, 2)
def mi_113 : MI := (yX9_heed, cX9_heed, 13, (some (.boolean)), [], false, 5)
def mi_114 : MI := (yX9_heededAt, cX9_heededAt, 2, (some (.int)), [], false, 1)
def mi_115 : MI := (yX9_fall, cX9_fall, 6, (some (.int)), [], false, 4)
def mi_116 : MI := (yX9_countsFor, cX9_countsFor, 4, (some (.int)), [], false, 2)
def mi_117 : MI := (yX9_firstOver, cX9_firstOver, 5, (some (.int)), [], false, 2)
def mi_118 : MI := (yX9_isTouchingAny, cX9_isTouchingAny, 7, (some (.boolean)), [], false, 3)
def mi_119 : MI := (yX9_hurl, cX9_hurl, 8, (some (.int)), [], false, 1)
def mi_120 : MI := (yX9_draw, cX9_draw, 2, (some (.int)), [], false, 1)
def mi_121 : MI := (yX9_lay, cX9_lay, 6, none, [], false, 4)
def mi_122 : MI := (yX9_knockOn, cX9_knockOn, 6, (some (.int)), [], false, 1)
def mi_123 : MI := (yX9_push, cX9_push, 8, (some (.int)), [], false, 4)
def mi_124 : MI := (yX9_writeLog, cX9_writeLog, 7, none, [], false, 5)
def mi_125 : MI := (yX9_latestKnocked, cX9_latestKnocked, 1, (some (.int)), [], false, 0)
def mi_126 : MI := (yX9_robbedOf, cX9_robbedOf, 5, (some (.int)), [], false, 1)
def mi_127 : MI := (yX9_isLed, cX9_isLed, 3, (some (.boolean)), [], false, 2)
def mi_128 : MI := (yX9_ledRows, cX9_ledRows, 4, (some (.int)), [], false, 1)
def mi_129 : MI := (yX9_latestLed, cX9_latestLed, 3, (some (.int)), [], false, 1)
def mi_130 : MI := (yX9_inFrontOf, cX9_inFrontOf, 6, (some (.int)), [], false, 1)
def mi_131 : MI := (yX9_hiddenOnes, cX9_hiddenOnes, 3, (some (.int)), [], false, 0)
def mi_132 : MI := (yX9_withinOf, cX9_withinOf, 6, (some (.int)), [], false, 3)
def mi_133 : MI := (yX9_gapAt, cX9_gapAt, 8, (some (.int)), [], false, 4)
def mi_134 : MI := (yX9_wouldOverlap, cX9_wouldOverlap, 5, (some (.boolean)), [], false, 3)
def mi_135 : MI := (yX10_init, cX10_init, 1, none, [], false, 0)
def mi_136 : MI := (yX10_size, cX10_size, 1, (some (.int)), [], false, 0)
def mi_137 : MI := (yX10_hasRoom, cX10_hasRoom, 2, (some (.boolean)), [], false, 1)
def mi_138 : MI := (yX10_add, cX10_add, 3, none, [], false, 1)
def mi_139 : MI := (yX10_cut, cX10_cut, 2, (some (.boolean)), [], false, 1)
def mi_140 : MI := (yX10_at, cX10_at, 2, (some (.int)), [], false, 1)
def mi_141 : MI := (yX10_start, cX10_start, 2, none, [], false, 0)
def mi_142 : MI := (yX10_growWord, cX10_growWord, 2, none, [], false, 1)
def mi_143 : MI := (yX10_growNumber, cX10_growNumber, 3, none, [], false, 1)
def mi_144 : MI := (yX10_latest, cX10_latest, 2, (some (.int)), [], false, 1)
def mi_145 : MI := (yX10_setLatest, cX10_setLatest, 2, none, [], false, 1)
def mi_146 : MI := (yX10_put, cX10_put, 4, none, [], false, 3)
def mi_147 : MI := (yX10_isLetter, cX10_isLetter, 1, (some (.boolean)), [], true, 1)
def mi_148 : MI := (yX10_isDigit, cX10_isDigit, 1, (some (.boolean)), [], true, 1)
def mi_149 : MI := (yX10_isAtEnd, cX10_isAtEnd, 1, (some (.boolean)), [], false, 0)
def mi_150 : MI := (yX10_begin, cX10_begin, 1, (some (.int)), [], false, 0)
def mi_151 : MI := (yX10_isNext, cX10_isNext, 2, (some (.boolean)), [], false, 1)
def mi_152 : MI := (yX10_value, cX10_value, 1, (some (.int)), [], false, 0)
def mi_153 : MI := (yX10_takes, cX10_takes, 5, (some (.boolean)), [], false, 1)
def mi_154 : MI := (yX10_takesSign, cX10_takesSign, 2, (some (.boolean)), [], false, 1)
def mi_155 : MI := (yX10_takeNumber, cX10_takeNumber, 4, (some (.int)), [], false, 2)
def mi_156 : MI := (yX10_giveBack, cX10_giveBack, 1, none, [], false, 0)
def mi_157 : MI := (yX11_init, cX11_init, 2, none, [], false, 0)
def mi_158 : MI := (yX11_feed, cX11_feed, 6, (some (.int)), [], false, 5)
def mi_159 : MI := (yX11_end, cX11_end, 2, (some (.boolean)), [], false, 1)
def mi_160 : MI := (yX11_fair, cX11_fair, 2, (some (.int)), [], false, 0)
def mi_161 : MI := (yX11_law, cX11_law, 2, (some (.int)), [], false, 0)
def mi_162 : MI := (yX11_fault, cX11_fault, 1, (some (.int)), [], false, 0)
def mi_163 : MI := (yX11_useUp, cX11_useUp, 2, none, [], false, 1)
def mi_164 : MI := (yX11_block, cX11_block, 3, (some (.int)), [], false, 2)
def mi_165 : MI := (yX11_hoop, cX11_hoop, 3, (some (.int)), [], false, 2)
def mi_166 : MI := (yX11_person, cX11_person, 3, (some (.int)), [], false, 2)
def mi_167 : MI := (yX11_aims, cX11_aims, 7, (some (.int)), [], false, 6)
def mi_168 : MI := (yX11_lies, cX11_lies, 3, (some (.int)), [], false, 2)
def mi_169 : MI := (yX11_log, cX11_log, 4, (some (.int)), [], false, 2)
def mi_170 : MI := (yX11_count, cX11_count, 2, (some (.int)), [], false, 1)
def mi_171 : MI := (yX11_countRest, cX11_countRest, 2, (some (.int)), [], false, 1)
def mi_172 : MI := (yX11_toss, cX11_toss, 6, (some (.int)), [], false, 5)
def mi_173 : MI := (yX11_clear, cX11_clear, 2, (some (.int)), [], false, 0)
def mi_174 : MI := (yX11_wets, cX11_wets, 5, (some (.boolean)), [], false, 2)
def mi_175 : MI := (yX11_skill, cX11_skill, 4, (some (.int)), [], false, 2)
def mi_176 : MI := (yX11_move, cX11_move, 6, (some (.int)), [], false, 3)
def mi_177 : MI := (yX11_over, cX11_over, 5, (some (.boolean)), [], false, 4)
def mi_178 : MI := (yX11_spots, cX11_spots, 3, (some (.int)), [], false, 2)
def mi_179 : MI := (yX11_narrowest, cX11_narrowest, 3, (some (.int)), [], false, 2)
def mi_180 : MI := (yX11_comes, cX11_comes, 5, (some (.int)), [], false, 4)
def mi_181 : MI := (yX11_ways, cX11_ways, 7, (some (.int)), [], false, 6)
def mi_182 : MI := (yX11_worth, cX11_worth, 6, (some (.int)), [], false, 5)
def mi_183 : MI := (yX11_how, cX11_how, 6, (some (.int)), [], false, 5)
def mi_184 : MI := (yX11_where, cX11_where, 4, (some (.int)), [], false, 3)
def mi_185 : MI := (yX11_reached, cX11_reached, 4, (some (.int)), [], false, 3)
def mi_186 : MI := (yX11_places, cX11_places, 4, (some (.int)), [], false, 3)
def mi_187 : MI := (yX11_earns, cX11_earns, 4, (some (.int)), [], false, 3)
def mi_188 : MI := (yX11_large, cX11_large, 5, (some (.int)), [], false, 4)
def mi_189 : MI := (yX11_arranged, cX11_arranged, 5, (some (.int)), [], false, 4)
def mi_190 : MI := (yX11_till, cX11_till, 7, (some (.int)), [], false, 6)
def mi_191 : MI := (yX11_stop, cX11_stop, 7, (some (.int)), [], false, 6)
def mi_192 : MI := (yX11_game, cX11_game, 5, (some (.int)), [], false, 4)
def mi_193 : MI := (yX11_gauge, cX11_gauge, 3, (some (.int)), [], false, 1)
def mi_194 : MI := (yX11_hidden, cX11_hidden, 1, (some (.int)), [], false, 0)
def mi_195 : MI := (yX11_near, cX11_near, 4, (some (.int)), [], false, 3)
def mi_196 : MI := (yX11_gap, cX11_gap, 3, (some (.int)), [], false, 2)
def mi_197 : MI := (yX11_trial, cX11_trial, 6, (some (.int)), [], false, 5)
def mi_198 : MI := (yX11_span, cX11_span, 10, (some (.int)), [], false, 6)
def mi_199 : MI := (yX11_tried, cX11_tried, 10, (some (.int)), [], false, 6)
def mi_200 : MI := (yX11_robbed, cX11_robbed, 2, (some (.int)), [], false, 1)
def mi_201 : MI := (yX11_led, cX11_led, 3, (some (.int)), [], false, 2)
def mi_202 : MI := (yX11_seed, cX11_seed, 3, (some (.int)), [], false, 1)
def mi_203 : MI := (yX11_undo, cX11_undo, 1, (some (.boolean)), [], false, 0)
def mi_204 : MI := (yX11_image, cX11_image, 1, none, [], false, 0)
def mi_205 : MI := (yX11_back, cX11_back, 1, (some (.boolean)), [], false, 0)
def mi_206 : MI := (yX11_take, cX11_take, 6, none, [], false, 5)
def mi_207 : MI := (yX11_sweep, cX11_sweep, 4, none, [], false, 3)
def mi_208 : MI := (yX11_needBlock, cX11_needBlock, 2, none, [], false, 1)
def mi_209 : MI := (yX11_needHoop, cX11_needHoop, 2, none, [], false, 1)
def mi_210 : MI := (yX11_needPerson, cX11_needPerson, 2, none, [], false, 1)
def mi_211 : MI := (yX11_needBetween, cX11_needBetween, 4, none, [], false, 3)
def mi_212 : MI := (yX11_needFrom, cX11_needFrom, 2, none, [], false, 1)
def mi_213 : MI := (yX11_needOnCloth, cX11_needOnCloth, 3, none, [], false, 2)
def mi_214 : MI := (yX11_needThrow, cX11_needThrow, 4, none, [], false, 3)
def mi_215 : MI := (yX11_needTrial, cX11_needTrial, 6, none, [], false, 5)
def mi_216 : MI := (yX12_init, cX12_init, 1, none, [], false, 0)
def mi_217 : MI := (yX12_thrown, cX12_thrown, 1, (some (.int)), [], false, 0)
def mi_218 : MI := (yX12_isIn, cX12_isIn, 3, (some (.boolean)), [], true, 3)
def mi_219 : MI := (yX12_lesser, cX12_lesser, 2, (some (.int)), [], true, 2)
def mi_220 : MI := (yX12_greater, cX12_greater, 2, (some (.int)), [], true, 2)
def mi_221 : MI := (yX12_size, cX12_size, 1, (some (.int)), [], true, 1)
def mi_222 : MI := (yX12_sign, cX12_sign, 1, (some (.int)), [], true, 1)
def mi_223 : MI := (yX12_ofBlock, cX12_ofBlock, 3, (some (.int)), [], false, 2)
def mi_224 : MI := (yX12_ofHoop, cX12_ofHoop, 3, (some (.int)), [], false, 2)
def mi_225 : MI := (yX12_of, cX12_of, 3, (some (.int)), [], false, 2)
def mi_226 : MI := (yX12_ofLying, cX12_ofLying, 3, (some (.int)), [], false, 2)
def mi_227 : MI := (yX12_isBlock, cX12_isBlock, 2, (some (.boolean)), [], false, 1)
def mi_228 : MI := (yX12_isHoop, cX12_isHoop, 2, (some (.boolean)), [], false, 1)
def mi_229 : MI := (yX12_isPerson, cX12_isPerson, 2, (some (.boolean)), [], false, 1)
def mi_230 : MI := (yX12_feed, cX12_feed, 8, (some (.int)), [], false, 5)
def mi_231 : MI := (yX12_end, cX12_end, 2, (some (.boolean)), [], false, 1)
def mi_232 : MI := (yX12_letter, cX12_letter, 2, (some (.int)), [], false, 1)
def mi_233 : MI := (yX12_skip, cX12_skip, 1, none, [], false, 0)
def mi_234 : MI := (yX12_isSign, cX12_isSign, 2, (some (.boolean)), [], false, 1)
def mi_235 : MI := (yX12_has, cX12_has, 4, (some (.boolean)), [], false, 1)
def mi_236 : MI := (yX12_wrong, cX12_wrong, 2, none, [], false, 1)
def mi_237 : MI := (yX12_must, cX12_must, 2, none, [], false, 1)
def mi_238 : MI := (yX12_place, cX12_place, 1, (some (.int)), [], false, 0)
def mi_239 : MI := (yX12_figures, cX12_figures, 5, (some (.int)), [], false, 2)
def mi_240 : MI := (yX12_blockLine, cX12_blockLine, 8, none, [], false, 1)
def mi_241 : MI := (yX12_hoopLine, cX12_hoopLine, 6, none, [], false, 1)
def mi_242 : MI := (yX12_personLine, cX12_personLine, 4, none, [], false, 1)
def mi_243 : MI := (yX12_tells, cX12_tells, 4, none, [], false, 2)
def mi_244 : MI := (yX12_fairLine, cX12_fairLine, 2, none, [], false, 0)
def mi_245 : MI := (yX12_begins, cX12_begins, 1, none, [], false, 0)
def mi_246 : MI := (yX12_read, cX12_read, 4, (some (.int)), [], false, 1)
def mi_247 : MI := (yX12_putsAside, cX12_putsAside, 2, none, [], false, 0)
def mi_248 : MI := (yX12_comesBack, cX12_comesBack, 2, none, [], false, 0)
def mi_249 : MI := (yX12_fair, cX12_fair, 2, (some (.int)), [], false, 0)
def mi_250 : MI := (yX12_part, cX12_part, 2, (some (.int)), [], false, 0)
def mi_251 : MI := (yX12_sum, cX12_sum, 2, (some (.int)), [], false, 0)
def mi_252 : MI := (yX12_plain, cX12_plain, 4, (some (.boolean)), [], false, 0)
def mi_253 : MI := (yX12_atom, cX12_atom, 4, (some (.boolean)), [], false, 0)
def mi_254 : MI := (yX12_every, cX12_every, 3, (some (.boolean)), [], false, 0)
def mi_255 : MI := (yX12_some, cX12_some, 3, (some (.boolean)), [], false, 0)
def mi_256 : MI := (yX12_lawLine, cX12_lawLine, 4, none, [], false, 0)
def mi_257 : MI := (yX12_law, cX12_law, 3, (some (.int)), [], false, 0)
def mi_258 : MI := (yX12_fault, cX12_fault, 1, (some (.int)), [], false, 0)
def mi_259 : MI := (yX12_aim, cX12_aim, 10, none, [], false, 6)
def mi_260 : MI := (yX12_goesOver, cX12_goesOver, 13, (some (.boolean)), [], true, 5)
def mi_261 : MI := (yX12_alongX, cX12_alongX, 3, (some (.int)), [], false, 2)
def mi_262 : MI := (yX12_alongY, cX12_alongY, 3, (some (.int)), [], false, 2)
def mi_263 : MI := (yX12_overWhich, cX12_overWhich, 8, (some (.int)), [], false, 4)
def mi_264 : MI := (yX12_touches, cX12_touches, 7, (some (.boolean)), [], false, 5)
def mi_265 : MI := (yX12_touchesSome, cX12_touchesSome, 7, (some (.boolean)), [], false, 5)
def mi_266 : MI := (yX12_falls, cX12_falls, 6, (some (.int)), [], false, 4)
def mi_267 : MI := (yX12_tally, cX12_tally, 5, (some (.int)), [], false, 1)
def mi_268 : MI := (yX12_isHidden, cX12_isHidden, 3, (some (.boolean)), [], false, 2)
def mi_269 : MI := (yX12_inFront, cX12_inFront, 4, (some (.int)), [], false, 1)
def mi_270 : MI := (yX12_block, cX12_block, 3, (some (.int)), [], false, 2)
def mi_271 : MI := (yX12_widest, cX12_widest, 4, (some (.int)), [], false, 1)
def mi_272 : MI := (yX12_hoop, cX12_hoop, 3, (some (.int)), [], false, 2)
def mi_273 : MI := (yX12_person, cX12_person, 3, (some (.int)), [], false, 2)
def mi_274 : MI := (yX12_isThrow, cX12_isThrow, 3, (some (.boolean)), [], true, 3)
def mi_275 : MI := (yX12_bad, cX12_bad, 6, (some (.int)), [], false, 5)
def mi_276 : MI := (yX12_aims, cX12_aims, 7, (some (.int)), [], false, 6)
def mi_277 : MI := (yX12_remembers, cX12_remembers, 2, none, [], false, 0)
def mi_278 : MI := (yX12_draw, cX12_draw, 2, (some (.int)), [], false, 1)
def mi_279 : MI := (yX12_takesUp, cX12_takesUp, 3, none, [], false, 1)
def mi_280 : MI := (yX12_lays, cX12_lays, 7, none, [], false, 5)
def mi_281 : MI := (yX12_knocks, cX12_knocks, 10, (some (.int)), [], false, 4)
def mi_282 : MI := (yX12_throwsOne, cX12_throwsOne, 12, (some (.int)), [], false, 5)
def mi_283 : MI := (yX12_toss, cX12_toss, 6, (some (.int)), [], false, 5)
def mi_284 : MI := (yX12_clear, cX12_clear, 2, (some (.int)), [], false, 0)
def mi_285 : MI := (yX12_wets, cX12_wets, 4, (some (.boolean)), [], false, 2)
def mi_286 : MI := (yX12_skill, cX12_skill, 4, (some (.int)), [], false, 2)
def mi_287 : MI := (yX12_between, cX12_between, 6, (some (.int)), [], false, 4)
def mi_288 : MI := (yX12_isFree, cX12_isFree, 5, (some (.boolean)), [], false, 3)
def mi_289 : MI := (yX12_move, cX12_move, 5, (some (.int)), [], false, 3)
def mi_290 : MI := (yX12_lies, cX12_lies, 3, (some (.int)), [], false, 2)
def mi_291 : MI := (yX12_over, cX12_over, 5, (some (.boolean)), [], false, 4)
def mi_292 : MI := (yX12_spots, cX12_spots, 6, (some (.int)), [], false, 2)
def mi_293 : MI := (yX12_narrowest, cX12_narrowest, 4, (some (.int)), [], false, 2)
def mi_294 : MI := (yX12_comes, cX12_comes, 5, (some (.int)), [], false, 4)
def mi_295 : MI := (yX12_ways, cX12_ways, 10, (some (.int)), [], false, 6)
def mi_296 : MI := (yX12_worthOf, cX12_worthOf, 10, (some (.int)), [], false, 6)
def mi_297 : MI := (yX12_worth, cX12_worth, 6, (some (.int)), [], false, 5)
def mi_298 : MI := (yX12_seeks, cX12_seeks, 8, none, [], false, 3)
def mi_299 : MI := (yX12_how, cX12_how, 6, (some (.int)), [], false, 5)
def mi_300 : MI := (yX12_where, cX12_where, 7, (some (.int)), [], false, 3)
def mi_301 : MI := (yX12_reachedFrom, cX12_reachedFrom, 9, (some (.int)), [], false, 3)
def mi_302 : MI := (yX12_reached, cX12_reached, 4, (some (.int)), [], false, 3)
def mi_303 : MI := (yX12_covers, cX12_covers, 6, (some (.boolean)), [], false, 4)
def mi_304 : MI := (yX12_places, cX12_places, 6, (some (.int)), [], false, 3)
def mi_305 : MI := (yX12_earns, cX12_earns, 7, (some (.int)), [], false, 3)
def mi_306 : MI := (yX12_large, cX12_large, 8, (some (.int)), [], false, 4)
def mi_307 : MI := (yX12_isOf, cX12_isOf, 2, (some (.boolean)), [], true, 2)
def mi_308 : MI := (yX12_given, cX12_given, 3, (some (.int)), [], false, 2)
def mi_309 : MI := (yX12_arranges, cX12_arranges, 6, none, [], false, 1)
def mi_310 : MI := (yX12_arranged, cX12_arranged, 9, (some (.int)), [], false, 4)
def mi_311 : MI := (yX12_till, cX12_till, 10, (some (.int)), [], false, 6)
def mi_312 : MI := (yX12_stop, cX12_stop, 12, (some (.int)), [], false, 6)
def mi_313 : MI := (yX12_plays, cX12_plays, 6, none, [], false, 3)
def mi_314 : MI := (yX12_isRest, cX12_isRest, 5, (some (.boolean)), [], false, 3)
def mi_315 : MI := (yX12_leastOf, cX12_leastOf, 5, (some (.int)), [], false, 2)
def mi_316 : MI := (yX12_mostOf, cX12_mostOf, 4, (some (.int)), [], false, 1)
def mi_317 : MI := (yX12_game, cX12_game, 11, (some (.int)), [], false, 4)
def mi_318 : MI := (yX12_fitsAll, cX12_fitsAll, 5, (some (.boolean)), [], false, 3)
def mi_319 : MI := (yX12_gauge, cX12_gauge, 10, (some (.int)), [], false, 1)
def mi_320 : MI := (yX12_hidden, cX12_hidden, 3, (some (.int)), [], false, 0)
def mi_321 : MI := (yX12_near, cX12_near, 6, (some (.int)), [], false, 3)
def mi_322 : MI := (yX12_gap, cX12_gap, 3, (some (.int)), [], false, 2)
def mi_323 : MI := (yX12_tries, cX12_tries, 8, (some (.int)), [], false, 5)
def mi_324 : MI := (yX12_trial, cX12_trial, 6, (some (.int)), [], false, 5)
def mi_325 : MI := (yX12_span, cX12_span, 10, (some (.int)), [], false, 6)
def mi_326 : MI := (yX12_logged, cX12_logged, 3, (some (.int)), [], false, 2)
def mi_327 : MI := (yX12_robbed, cX12_robbed, 4, (some (.int)), [], false, 1)
def mi_328 : MI := (yX12_led, cX12_led, 6, (some (.int)), [], false, 2)
def mi_329 : MI := (yX12_log, cX12_log, 3, (some (.int)), [], false, 2)
def mi_330 : MI := (yX12_seed, cX12_seed, 3, (some (.int)), [], false, 1)
def mi_331 : MI := (yX12_undo, cX12_undo, 2, (some (.boolean)), [], false, 0)
def mi_332 : MI := (yX12_image, cX12_image, 2, none, [], false, 0)
def mi_333 : MI := (yX12_back, cX12_back, 2, (some (.boolean)), [], false, 0)
def mi_334 : MI := (yX12_count, cX12_count, 2, (some (.int)), [], false, 1)
def mi_335 : MI := (yJ6_bitCount_0f7a4, cJ6_bitCount_0f7a4, 1, (some (.int)), [], true, 1)
def mi_336 : MI := (yJ6_signum_0f7a4, cJ6_signum_0f7a4, 1, (some (.int)), [], true, 1)
def mi_337 : MI := (yJ7_fill_53178, cJ7_fill_53178, 4, none, [], true, 2)
def mi_338 : MI := (yJ7_copyOf_59c91, cJ7_copyOf_59c91, 3, (some ((.array .int))), [], true, 2)
def mi_339 : MI := (yL_fair, cL_fair, 3, (some (.int)), [(0, 8, 11, 13), (0, 8, 14, 15)], true, 2)
def mi_340 : MI := (yL_law, cL_law, 3, (some (.int)), [(0, 8, 11, 13)], true, 2)
def mi_341 : MI := (yL_block, cL_block, 5, (some (.int)), [(0, 10, 13, 24), (0, 10, 17, 26)], true, 4)
def mi_342 : MI := (yL_hoop, cL_hoop, 5, (some (.int)), [(0, 10, 13, 24), (0, 10, 17, 26)], true, 4)
def mi_343 : MI := (yL_person, cL_person, 5, (some (.int)), [(0, 10, 13, 24), (0, 10, 17, 26)], true, 4)
def mi_344 : MI := (yL_aims, cL_aims, 9, (some (.int)), [(0, 18, 21, 24), (0, 18, 25, 13)], true, 8)
def mi_345 : MI := (yL_toss, cL_toss, 8, (some (.int)), [(0, 16, 19, 24), (0, 16, 23, 13)], true, 7)
def mi_346 : MI := (yL_wets, cL_wets, 5, (some (.int)), [(0, 17, 20, 24)], true, 4)
def mi_347 : MI := (yL_skill, cL_skill, 5, (some (.int)), [(0, 10, 13, 24), (0, 10, 17, 13)], true, 4)
def mi_348 : MI := (yL_move, cL_move, 6, (some (.int)), [(0, 12, 15, 24), (0, 12, 19, 13), (0, 12, 23, 53)], true, 5)
def mi_349 : MI := (yL_lies, cL_lies, 5, (some (.int)), [(0, 10, 13, 26)], true, 4)
def mi_350 : MI := (yL_over, cL_over, 7, (some (.int)), [(0, 21, 24, 24), (0, 21, 28, 13)], true, 6)
def mi_351 : MI := (yL_spots, cL_spots, 5, (some (.int)), [(0, 10, 13, 24)], true, 4)
def mi_352 : MI := (yL_narrowest, cL_narrowest, 5, (some (.int)), [(0, 10, 13, 24), (0, 10, 17, 13)], true, 4)
def mi_353 : MI := (yL_comes, cL_comes, 7, (some (.int)), [(0, 14, 17, 24), (0, 14, 21, 13)], true, 6)
def mi_354 : MI := (yL_ways, cL_ways, 9, (some (.int)), [(0, 18, 21, 24), (0, 18, 25, 13)], true, 8)
def mi_355 : MI := (yL_worth, cL_worth, 8, (some (.int)), [(0, 16, 19, 24), (0, 16, 23, 13)], true, 7)
def mi_356 : MI := (yL_how, cL_how, 8, (some (.int)), [(0, 16, 19, 24), (0, 16, 23, 13), (0, 16, 27, 26)], true, 7)
def mi_357 : MI := (yL_where, cL_where, 6, (some (.int)), [(0, 12, 15, 24)], true, 5)
def mi_358 : MI := (yL_reached, cL_reached, 6, (some (.int)), [(0, 12, 15, 24), (0, 12, 19, 13)], true, 5)
def mi_359 : MI := (yL_places, cL_places, 6, (some (.int)), [(0, 12, 15, 24)], true, 5)
def mi_360 : MI := (yL_earns, cL_earns, 6, (some (.int)), [(0, 12, 15, 24), (0, 12, 19, 13)], true, 5)
def mi_361 : MI := (yL_large, cL_large, 7, (some (.int)), [(0, 14, 17, 24), (0, 14, 21, 13)], true, 6)
def mi_362 : MI := (yL_arranged, cL_arranged, 7, (some (.int)), [(0, 14, 17, 24), (0, 14, 21, 13)], true, 6)
def mi_363 : MI := (yL_till, cL_till, 9, (some (.int)), [(0, 18, 21, 24), (0, 18, 25, 13)], true, 8)
def mi_364 : MI := (yL_stop, cL_stop, 9, (some (.int)), [(0, 18, 21, 24), (0, 18, 25, 13)], true, 8)
def mi_365 : MI := (yL_game, cL_game, 7, (some (.int)), [(0, 14, 17, 24), (0, 14, 21, 13), (0, 14, 25, 53), (0, 14, 29, 26)], true, 6)
def mi_366 : MI := (yL_gauge, cL_gauge, 4, (some (.int)), [(0, 9, 12, 13)], true, 3)
def mi_367 : MI := (yL_near, cL_near, 6, (some (.int)), [(0, 12, 15, 13)], true, 5)
def mi_368 : MI := (yL_gap, cL_gap, 5, (some (.int)), [(0, 10, 13, 24), (0, 10, 17, 13)], true, 4)
def mi_369 : MI := (yL_trial, cL_trial, 8, (some (.int)), [(0, 16, 19, 24), (0, 16, 23, 13)], true, 7)
def mi_370 : MI := (yL_span, cL_span, 9, (some (.int)), [(0, 18, 21, 24), (0, 18, 25, 13)], true, 8)
def mi_371 : MI := (yL_robbed, cL_robbed, 4, (some (.int)), [(0, 9, 12, 24)], true, 3)
def mi_372 : MI := (yL_led, cL_led, 5, (some (.int)), [(0, 10, 13, 24)], true, 4)
def mi_373 : MI := (yL_log, cL_log, 5, (some (.int)), [(0, 10, 13, 26)], true, 4)
def mi_374 : MI := (yL_law_, cL_law_, 7, (some (.boolean)), [], true, 1)
def mget (l : List MI) (i : Nat) : MI := match l, i with
  | [], _ => mi_0
  | x :: _, 0 => x
  | _ :: l, i + 1 => mget l i
def ml_0 : List MI := [mi_0, mi_1, mi_2, mi_3, mi_4, mi_5, mi_6, mi_7, mi_8, mi_9, mi_10, mi_11, mi_12, mi_13, mi_14, mi_15, mi_16, mi_17, mi_18, mi_19]
def ml_1 : List MI := [mi_20, mi_21, mi_22, mi_23, mi_24, mi_25, mi_26, mi_27, mi_28, mi_29, mi_30, mi_31, mi_32, mi_33, mi_34, mi_35, mi_36, mi_37, mi_38, mi_39]
def ml_2 : List MI := [mi_40, mi_41, mi_42, mi_43, mi_44, mi_45, mi_46, mi_47, mi_48, mi_49, mi_50, mi_51, mi_52, mi_53, mi_54, mi_55, mi_56, mi_57, mi_58, mi_59]
def ml_3 : List MI := [mi_60, mi_61, mi_62, mi_63, mi_64, mi_65, mi_66, mi_67, mi_68, mi_69, mi_70, mi_71, mi_72, mi_73, mi_74, mi_75, mi_76, mi_77, mi_78, mi_79]
def ml_4 : List MI := [mi_80, mi_81, mi_82, mi_83, mi_84, mi_85, mi_86, mi_87, mi_88, mi_89, mi_90, mi_91, mi_92, mi_93, mi_94, mi_95, mi_96, mi_97, mi_98, mi_99]
def ml_5 : List MI := [mi_100, mi_101, mi_102, mi_103, mi_104, mi_105, mi_106, mi_107, mi_108, mi_109, mi_110, mi_111, mi_112, mi_113, mi_114, mi_115, mi_116, mi_117, mi_118, mi_119]
def ml_6 : List MI := [mi_120, mi_121, mi_122, mi_123, mi_124, mi_125, mi_126, mi_127, mi_128, mi_129, mi_130, mi_131, mi_132, mi_133, mi_134, mi_135, mi_136, mi_137, mi_138, mi_139]
def ml_7 : List MI := [mi_140, mi_141, mi_142, mi_143, mi_144, mi_145, mi_146, mi_147, mi_148, mi_149, mi_150, mi_151, mi_152, mi_153, mi_154, mi_155, mi_156, mi_157, mi_158, mi_159]
def ml_8 : List MI := [mi_160, mi_161, mi_162, mi_163, mi_164, mi_165, mi_166, mi_167, mi_168, mi_169, mi_170, mi_171, mi_172, mi_173, mi_174, mi_175, mi_176, mi_177, mi_178, mi_179]
def ml_9 : List MI := [mi_180, mi_181, mi_182, mi_183, mi_184, mi_185, mi_186, mi_187, mi_188, mi_189, mi_190, mi_191, mi_192, mi_193, mi_194, mi_195, mi_196, mi_197, mi_198, mi_199]
def ml_10 : List MI := [mi_200, mi_201, mi_202, mi_203, mi_204, mi_205, mi_206, mi_207, mi_208, mi_209, mi_210, mi_211, mi_212, mi_213, mi_214, mi_215, mi_216, mi_217, mi_218, mi_219]
def ml_11 : List MI := [mi_220, mi_221, mi_222, mi_223, mi_224, mi_225, mi_226, mi_227, mi_228, mi_229, mi_230, mi_231, mi_232, mi_233, mi_234, mi_235, mi_236, mi_237, mi_238, mi_239]
def ml_12 : List MI := [mi_240, mi_241, mi_242, mi_243, mi_244, mi_245, mi_246, mi_247, mi_248, mi_249, mi_250, mi_251, mi_252, mi_253, mi_254, mi_255, mi_256, mi_257, mi_258, mi_259]
def ml_13 : List MI := [mi_260, mi_261, mi_262, mi_263, mi_264, mi_265, mi_266, mi_267, mi_268, mi_269, mi_270, mi_271, mi_272, mi_273, mi_274, mi_275, mi_276, mi_277, mi_278, mi_279]
def ml_14 : List MI := [mi_280, mi_281, mi_282, mi_283, mi_284, mi_285, mi_286, mi_287, mi_288, mi_289, mi_290, mi_291, mi_292, mi_293, mi_294, mi_295, mi_296, mi_297, mi_298, mi_299]
def ml_15 : List MI := [mi_300, mi_301, mi_302, mi_303, mi_304, mi_305, mi_306, mi_307, mi_308, mi_309, mi_310, mi_311, mi_312, mi_313, mi_314, mi_315, mi_316, mi_317, mi_318, mi_319]
def ml_16 : List MI := [mi_320, mi_321, mi_322, mi_323, mi_324, mi_325, mi_326, mi_327, mi_328, mi_329, mi_330, mi_331, mi_332, mi_333, mi_334, mi_335, mi_336, mi_337, mi_338, mi_339]
def ml_17 : List MI := [mi_340, mi_341, mi_342, mi_343, mi_344, mi_345, mi_346, mi_347, mi_348, mi_349, mi_350, mi_351, mi_352, mi_353, mi_354, mi_355, mi_356, mi_357, mi_358, mi_359]
def ml_18 : List MI := [mi_360, mi_361, mi_362, mi_363, mi_364, mi_365, mi_366, mi_367, mi_368, mi_369, mi_370, mi_371, mi_372, mi_373, mi_374]
def mls (i : Nat) : List MI := match i with
  | 0 => ml_0
  | 1 => ml_1
  | 2 => ml_2
  | 3 => ml_3
  | 4 => ml_4
  | 5 => ml_5
  | 6 => ml_6
  | 7 => ml_7
  | 8 => ml_8
  | 9 => ml_9
  | 10 => ml_10
  | 11 => ml_11
  | 12 => ml_12
  | 13 => ml_13
  | 14 => ml_14
  | 15 => ml_15
  | 16 => ml_16
  | 17 => ml_17
  | 18 => ml_18
  | _ => []
def MT (y : Nat) : MI := mget (mls (y / 20)) (y % 20)
abbrev mNm (y : Nat) : MethodName := (MT y).1
abbrev mBy (y : Nat) : ByteArray := (MT y).2.1
abbrev mMx (y : Nat) : Nat := (MT y).2.2.1
abbrev mRt (y : Nat) : Option FieldType := (MT y).2.2.2.1
abbrev mHh (y : Nat) : List (Nat × Nat × Nat × Nat) := (MT y).2.2.2.2.1
abbrev mSt (y : Nat) : Bool := (MT y).2.2.2.2.2.1
abbrev mNp (y : Nat) : Nat := (MT y).2.2.2.2.2.2
/-- the method's own word -/
def mWd (y : Nat) : Cond := if mHh y = [] then .code (mNm y) (mBy y) (mMx y) (mRt y) else .codeWith (mNm y) (mBy y) (mMx y) (mRt y) (mHh y)
def isRT (t : Option FieldType) : Bool := match t with
  | some (.object _) => true
  | some (.array _) => true
  | _ => false
def getC (k : Nat) : Option (String × u_T × Nat) := vwCl[k]?
section CHK
variable (y : Nat) (M : Nat → DI) (wp : Nat → Nat) (i : Nat)
def dcI (n : Nat) : Bool := decide (decode (mBy y) (M i).1 = .ok ((M i).2.1, n)) && decide ((M (i + 1)).1 = (M i).1 + n)
def dcE (n : Nat) : Bool := decide (decode (mBy y) (M i).1 = .ok ((M i).2.1, n))
def tgI (t : Nat) (off : Int) : Bool := decide (((M i).1 : Int) + off = ((M t).1 : Int))
def tgT (off : Int) : Bool := match (M i).2.2.1 with
  | [t] => tgI M i t off
  | _ => false
def tgL (ts : List Nat) (os : List Int) : Bool := match ts, os with
  | [], [] => true
  | t :: ts, o :: os => tgI M i t o && tgL ts os
  | _, _ => false
def tgP (ts : List Nat) (os : List (Int × Int)) : Bool := match ts, os with
  | [], [] => true
  | v :: t :: ts, o :: os => decide (o.1 = (v : Int)) && decide (v < 2147483648) && tgI M i t o.2 && tgP ts os
  | _, _ => false
def okF (k : Nat) (put : Bool) : Bool := match (M i).2.2.1 with
  | [ci, f, t, fin] => (match getC ci with
    | some r => decide (f < r.2.2) && (wdI (wp i) (.fieldLink (mNm y).cls k r.1 (r.2.1 f).2.1 (r.2.1 f).2.2.1) || wnI (wp i) (.fieldLinkNest (mNm y).cls k r.1 (r.2.1 f).2.1 (r.2.1 f).2.2.1 "HoopFair") && (!put || decide (fin = 0))) && decide (r.1 = (r.2.1 f).1) && decide (isRf ci f = decide (t = 2)) && (cond put (decide ((r.2.1 f).2.2.2 = decide (fin = 1)) && (decide (fin = 0) || decide ((mNm y).name = "<init>") && decide ((r.2.1 f).1 = (mNm y).cls)) &&
        (match t with
        | 0 => decide (parseFieldDescriptor (r.2.1 f).2.2.1 = some .int)
        | 1 => decide (parseFieldDescriptor (r.2.1 f).2.2.1 = some .boolean)
        | 2 => isRT (parseFieldDescriptor (r.2.1 f).2.2.1)
        | _ => false)) (decide (t = 0) || decide (t = 2)))
    | none => false)
  | _ => false
/-- handlers of this place: as the file's table has them -/
def okH (pc : Nat) (hs : List Nat) (hh : List (Nat × Nat × Nat × Nat)) : Bool := match hh with
  | [] => decide (hs = [])
  | (a, b, h, ct) :: hh => cond (decide (a ≤ pc) && decide (pc < b)) (match hs with
    | e :: t :: c :: hs => decide ((M t).1 = h) && (match (M t).2.1 with
      | .astore n => decide (n = c) && dcI y M t 2
      | .astore_n n => decide (n.val = c) && dcI y M t 1
      | _ => false) && (decide (c < mMx y) && decide (ct ≠ 0)) && (match thrT.find? (fun q => decide (q.2.2.2.2.2.1 = e)) with
      | some q => wdI (wp t) (.classLink (mNm y).cls ct q.2.2.2.2.1)
      | none => false) && okH pc hs hh
    | _ => false) (okH pc hs hh)
def okC (k : Nat) (kd : Nat) : Bool := match (M i).2.2.1 with
  | z :: n :: rk :: ci :: hs => (wdI (wp i) (.methodLink (mNm y).cls k (mNm z)) || wnI (wp i) (.methodLinkNest (mNm y).cls k (mNm z) "HoopFair") && decide ((mNm z).name = "<init>")) && decide (n = mNp z + cond (mSt z) 0 1) && decide (z < 374) &&
    (match rk with
    | 0 => decide (mRt z = none)
    | 1 => decide (mRt z = some .int) || decide (mRt z = some .boolean)
    | 2 => isRT (mRt z)
    | _ => false) && (match kd with
    | 0 => decide (mSt z = false) && decide ((mNm z).name ≠ "<init>") && (match getC ci with
      | some r => decide (r.1 = (mNm z).cls) && decide (ci < 13)
      | none => false)
    | 1 => decide (mSt z = false) && decide ((mNm z).name = "<init>") && decide (mRt z = none) && decide (ci < 13)
    | _ => decide (mSt z = true) && decide ((mNm z).name ≠ "<init>")) && okH y M wp (M i).1 hs (mHh y)
  | _ => false
def okI : Bool := match (M i).2.1 with
  | .aload _ => dcI y M i 2
  | .aload_n _ => dcI y M i 1
  | .iload _ => dcI y M i 2
  | .iload_n _ => dcI y M i 1
  | .lload _ => dcI y M i 2
  | .lload_n _ => dcI y M i 1
  | .astore _ => dcI y M i 2
  | .astore_n _ => dcI y M i 1
  | .istore _ => dcI y M i 2
  | .istore_n _ => dcI y M i 1
  | .lstore _ => dcI y M i 2
  | .iinc _ n => dcI y M i 3 && decide (Int32.ofInt n = (M i).2.2.2)
  | .iconst n => dcI y M i 1 && decide (Int32.ofInt n = (M i).2.2.2)
  | .bipush n => dcI y M i 2 && decide ((Int8.ofInt n).toInt32 = (M i).2.2.2)
  | .sipush n => dcI y M i 3 && decide ((Int16.ofInt n).toInt32 = (M i).2.2.2)
  | .ldc k => dcI y M i 2 && (match (M i).2.2.1 with
    | [] => wdI (wp i) (.constant (mNm y).cls k (M i).2.2.2)
    | [a] => decide (1 ≤ a) && decide (a ≤ 77) && (match strT[a - 1]? with
      | some q => decide (q.1 = (mNm y).cls) && decide (q.2.1 = k)
      | none => false)
    | _ => false)
  | .ldc_w k => dcI y M i 3 && wdI (wp i) (.constant (mNm y).cls k (M i).2.2.2)
  | .lconst _ => dcI y M i 1
  | .iadd => dcI y M i 1
  | .isub => dcI y M i 1
  | .imul => dcI y M i 1
  | .iand => dcI y M i 1
  | .ior => dcI y M i 1
  | .ixor => dcI y M i 1
  | .idiv => dcI y M i 1
  | .irem => dcI y M i 1
  | .ineg => dcI y M i 1
  | .ishl => dcI y M i 1
  | .ishr => dcI y M i 1
  | .iushr => dcI y M i 1
  | .i2l => dcI y M i 1
  | .ladd => dcI y M i 1
  | .lmul => dcI y M i 1
  | .lcmp => dcI y M i 1
  | .dup => dcI y M i 1
  | .dup2 => dcI y M i 1
  | .pop => dcI y M i 1
  | .goto o => dcE y M i 3 && tgT M i o
  | .ifCond _ o => dcI y M i 3 && tgT M i o
  | .if_icmp _ o => dcI y M i 3 && tgT M i o
  | .if_acmp _ o => dcI y M i 3 && tgT M i o
  | .ifnull o => dcI y M i 3 && tgT M i o
  | .ifnonnull o => dcI y M i 3 && tgT M i o
  | .tableswitch d lo hi os => dcE y M i ((M (i + 1)).1 - (M i).1) && (match (M i).2.2.1 with
    | t :: ts => tgI M i t d && tgL M i ts os.toList && decide ((M i).2.2.2.toInt = lo) && decide (hi + 1 = lo + (ts.length : Int)) && decide (0 ≤ lo) && decide (hi < 1000)
    | _ => false)
  | .lookupswitch d os => dcE y M i ((M (i + 1)).1 - (M i).1) && (match (M i).2.2.1 with
    | t :: ts => tgI M i t d && tgP M i ts os.toList && (os.toList.zip (os.toList.drop 1)).all (fun (a, next) => decide (a.1 < next.1))
    | _ => false)
  | .ireturn => dcE y M i 1 && (match (M i).2.2.1 with
    | [] => decide (mRt y = some .int)
    | _ => decide (mRt y = some .boolean))
  | .areturn => dcE y M i 1 && isRT (mRt y)
  | .return_ => dcE y M i 1 && decide (mRt y = none)
  | .new k => (match (M i).2.2.1 with
    | [ci, n] => dcI y M i 3 && (match getC ci with
      | some r => wdI (wp i) (.classLink (mNm y).cls k r.1) && decide (r.2.2 = n) && decide (ci < 13)
      | none => false)
    | [e] => (match thrT.find? (fun q => decide (q.2.1 = k) && cond q.2.2.2.2.2.2.2 (decide (decode (mBy y) ((M i).1 + 4) = .ok (.ldc_w q.2.2.1, 3)) && decide (decode (mBy y) ((M i).1 + 7) = .ok (.invokespecial q.2.2.2.1, 3))) (decide (decode (mBy y) ((M i).1 + 4) = .ok (.ldc q.2.2.1, 2)) && decide (decode (mBy y) ((M i).1 + 6) = .ok (.invokespecial q.2.2.2.1, 3)))) with
      | some q => decide (q.1 = (mNm y).cls) && decide (q.2.2.2.2.2.1 = e) && decide (decode (mBy y) (M i).1 = .ok (.new k, 3)) && decide (decode (mBy y) ((M i).1 + 3) = .ok (.dup, 1)) && decide (decode (mBy y) ((M i).1 + cond q.2.2.2.2.2.2.2 10 9) = .ok (.athrow, 1)) && decide (mHh y = [])
      | none => false)
    | _ => false)
  | .newarray t => dcI y M i 2 && (match t, (M i).2.2.1 with
    | .int, [20] => true
    | .long, [21] => true
    | .boolean, [22] => true
    | _, _ => false)
  | .anewarray k => dcI y M i 3 && wdI (wp i) (.classLink (mNm y).cls k RX9)
  | .arraylength => dcI y M i 1 && (match (M i).2.2.1 with
    | [20] => true
    | [23] => true
    | [25] => true
    | _ => false)
  | .iaload => dcI y M i 1 && (match (M i).2.2.1 with
    | [20] => true
    | [25] => true
    | _ => false)
  | .baload => dcI y M i 1
  | .laload => dcI y M i 1
  | .aaload => dcI y M i 1
  | .iastore => dcI y M i 1
  | .bastore => dcI y M i 1
  | .lastore => dcI y M i 1
  | .aastore => dcI y M i 1
  | .getfield k => dcI y M i 3 && okF y M wp i k false
  | .putfield k => dcI y M i 3 && okF y M wp i k true
  | .checkcast k => dcI y M i 3 && wdI (wp i) (.classLink (mNm y).cls k "[I")
  | .invokevirtual k => dcI y M i 3 && (match (M i).2.2.1 with
    | [0, 0, 8, 0] => wdI (wp i) (.methodLink (mNm y).cls k yJ0_length_8abf5)
    | [0, 0, 9, 0] => wdI (wp i) (.methodLink (mNm y).cls k yJ0_charAt_5068e)
    | [0, 0, 10, 0] => wdI (wp i) (.methodLink (mNm y).cls k ⟨"[I", "clone", "()Ljava/lang/Object;"⟩)
    | _ => okC y M wp i k 0)
  | .invokespecial k => dcI y M i 3 && (match (M i).2.2.1 with
    | [0, 0, 8, 0] => wdI (wp i) (.methodLink (mNm y).cls k objectInit)
    | _ => okC y M wp i k 1)
  | .invokestatic k => dcI y M i 3 && (match (M i).2.2.1 with
    | [0, 0, 8, 0] => wdI (wp i) (.methodLink (mNm y).cls k Lib.Math.max.name)
    | [0, 0, 9, 0] => wdI (wp i) (.methodLink (mNm y).cls k Lib.Math.min.name)
    | [0, 0, 10, 0] => wdI (wp i) (.methodLink (mNm y).cls k Lib.Math.abs.name)
    | [0, 0, 11, 0] => wdI (wp i) (.methodLink (mNm y).cls k arraycopyName)
    | _ => okC y M wp i k 2)
  | _ => false
end CHK
def nopI (ins : Instr) : Bool := match ins with
  | .nop => true
  | _ => false
/-- n places from lo on; what is never reached stands as nop -/
def okS (y : Nat) (M : Nat → DI) (wp : Nat → Nat) : Nat → Nat → Bool
  | _, 0 => true
  | lo, n + 1 => (nopI (M lo).2.1 || okI y M wp lo) && okS y M wp (lo + 1) n
theorem okS_at {y : Nat} {M : Nat → DI} {wp : Nat → Nat} : ∀ (n lo : Nat), okS y M wp lo n = true → ∀ i, lo ≤ i → i < lo + n → nopI (M i).2.1 = true ∨ okI y M wp i = true
  | 0, _, _, i, h1, h2 => by omega
  | n + 1, lo, h, i, h1, h2 => by
    unfold okS at h
    rw [Bool.and_eq_true, Bool.or_eq_true] at h
    by_cases hi : i = lo
    · subst hi
      exact h.1
    · exact okS_at n (lo + 1) h.2 i (by omega) (by omega)
theorem nop_none {cl : CL} {k : KK} {di : DI} {i : Nat} {ls st : List Value} {σ : HS} (h : nopI di.2.1 = true) : stepG cl k di i ls st σ = none := by
  obtain ⟨pc, ins, ps, c⟩ := di
  cases ins <;> first
    | rfl
    | cases h
theorem dget_out : ∀ (l : List DI) (i : Nat), l.length ≤ i → nopI (dget l i).2.1 = true
  | [], i, _ => by cases i <;> rfl
  | _ :: l, 0, h => by simp at h
  | _ :: l, i + 1, h => dget_out l i (by simp at h; omega)
theorem dget2_out : ∀ (l : List (List DI)) (i : Nat), l.length ≤ i → dget2 l i = []
  | [], i, _ => by cases i <;> rfl
  | _ :: l, 0, h => by simp at h
  | _ :: l, i + 1, h => dget2_out l i (by simp at h; omega)
def mOK (y a b c d : Nat) : Bool := wdI a (mWd y) && (cond (mSt y) (wdI b (.static (mNm y))) (wdI b (.instanceMethod (mNm y)) && (decide ((mNm y).name = "<init>") || wdI c (.selects (mNm y).cls (mNm y) (mNm y))))) && wdI d (.initialized (mNm y).cls) && plainName (mNm y).cls &&
  decide ((mNm y).cls ≠ "java/lang/invoke/MethodHandle" ∧ (mNm y).cls ≠ "java/lang/invoke/VarHandle") && decide ((parseMethodDescriptor (mNm y).desc).map (fun d => d.parameters.length) = some (mNp y)) && decide (mMx y ≤ 40) && decide (mNp y + cond (mSt y) 0 1 ≤ mMx y) && (mSt y || decide (mHh y = []))
def MOK (y : Nat) : Prop := mWd y ∈ LTg ∧ (mSt y = true → Cond.static (mNm y) ∈ LTg) ∧ (mSt y = false → Cond.instanceMethod (mNm y) ∈ LTg ∧ ((mNm y).name = "<init>" ∨ Cond.selects (mNm y).cls (mNm y) (mNm y) ∈ LTg)) ∧ Cond.initialized (mNm y).cls ∈ LTg ∧ plainName (mNm y).cls = true ∧ ((mNm y).cls ≠ "java/lang/invoke/MethodHandle" ∧ (mNm y).cls ≠ "java/lang/invoke/VarHandle") ∧ (parseMethodDescriptor (mNm y).desc).map (fun d => d.parameters.length) = some (mNp y) ∧ mMx y ≤ 40 ∧ mNp y + cond (mSt y) 0 1 ≤ mMx y ∧ (mSt y = true ∨ mHh y = [])
theorem mOK_ok {y a b c d : Nat} (h : mOK y a b c d = true) : MOK y := by
  unfold mOK at h
  rw [Bool.and_eq_true, Bool.and_eq_true, Bool.and_eq_true, Bool.and_eq_true, Bool.and_eq_true, Bool.and_eq_true, Bool.and_eq_true, Bool.and_eq_true] at h
  obtain ⟨⟨⟨⟨⟨⟨⟨⟨h1, h2⟩, h3⟩, h4⟩, h5⟩, h6⟩, h7⟩, h8⟩, h9⟩ := h
  refine ⟨wdI_ok h1, fun hs => ?_, fun hs => ?_, wdI_ok h3, h4, of_decide_eq_true h5, of_decide_eq_true h6, of_decide_eq_true h7, of_decide_eq_true h8, ?_⟩
  · rw [hs] at h2
    exact wdI_ok h2
  · rw [hs] at h2
    dsimp only [cond_false] at h2
    rw [Bool.and_eq_true, Bool.or_eq_true] at h2
    exact ⟨wdI_ok h2.1, h2.2.elim (fun q => Or.inl (of_decide_eq_true q)) (fun q => Or.inr (wdI_ok q))⟩
  · rw [Bool.or_eq_true] at h9
    exact h9.elim Or.inl (fun q => Or.inr (of_decide_eq_true q))
