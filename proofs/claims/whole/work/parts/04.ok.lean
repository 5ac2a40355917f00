set_option maxRecDepth 100000 in
theorem okm_0 : okMp (yX0_init, cX0_init, 1, none, 0, 0, 378, 93) := ⟨rfl, by decide, rfl, rfl, by decide +kernel, by decide, by decide⟩
set_option maxRecDepth 100000 in
theorem okm_1 : okMp (yX0_empty, cX0_empty, 2, none, 0, 0, 434, 93) := ⟨rfl, by decide, rfl, rfl, by decide +kernel, by decide, by decide⟩
set_option maxRecDepth 100000 in
theorem okm_2 : okMp (yX0_takeFrom, cX0_takeFrom, 2, none, 1, 0, 960, 93) := ⟨rfl, by decide, rfl, rfl, by decide +kernel, by decide, by decide⟩
set_option maxRecDepth 100000 in
theorem okm_3 : okMp (yX0_walk, cX0_walk, 5, none, 1, 0, 894, 93) := ⟨rfl, by decide, rfl, rfl, by decide +kernel, by decide, by decide⟩
set_option maxRecDepth 100000 in
theorem okm_4 : okMp (yX0_putGiven, cX0_putGiven, 3, none, 1, 0, 898, 93) := ⟨rfl, by decide, rfl, rfl, by decide +kernel, by decide, by decide⟩
set_option maxRecDepth 100000 in
theorem okm_5 : okMp (yX0_putWritten, cX0_putWritten, 4, none, 3, 0, 918, 93) := ⟨rfl, by decide, rfl, rfl, by decide +kernel, by decide, by decide⟩
set_option maxRecDepth 100000 in
theorem okm_6 : okMp (yX0_placeFor, cX0_placeFor, 9, (some .int), 2, 0, 906, 93) := ⟨rfl, by decide, rfl, rfl, by decide +kernel, by decide, by decide⟩
set_option maxRecDepth 100000 in
theorem okm_7 : okMp (yX0_isBetter, cX0_isBetter, 3, (some .boolean), 2, 0, 914, 93) := ⟨rfl, by decide, rfl, rfl, by decide +kernel, by decide, by decide⟩
set_option maxRecDepth 100000 in
theorem okm_8 : okMp (yX0_lowestFrom, cX0_lowestFrom, 5, (some .int), 2, 0, 910, 93) := ⟨rfl, by decide, rfl, rfl, by decide +kernel, by decide, by decide⟩
set_option maxRecDepth 100000 in
theorem okm_9 : okMp (yX0_top, cX0_top, 4, (some .int), 1, 0, 922, 93) := ⟨rfl, by decide, rfl, rfl, by decide +kernel, by decide, by decide⟩
set_option maxRecDepth 100000 in
theorem okm_10 : okMp (yX0_moveDown, cX0_moveDown, 7, (some .int), 1, 0, 931, 93) := ⟨rfl, by decide, rfl, rfl, by decide +kernel, by decide, by decide⟩
set_option maxRecDepth 100000 in
theorem okm_11 : okMp (yX0_lowestBut, cX0_lowestBut, 4, (some .int), 1, 0, 935, 93) := ⟨rfl, by decide, rfl, rfl, by decide +kernel, by decide, by decide⟩
set_option maxRecDepth 100000 in
theorem okm_12 : okMp (yX0_whoHolds, cX0_whoHolds, 4, (some .int), 2, 0, 948, 93) := ⟨rfl, by decide, rfl, rfl, by decide +kernel, by decide, by decide⟩
set_option maxRecDepth 100000 in
theorem okm_13 : okMp (yX1_init, cX1_init, 1, none, 0, 1, 318, 90) := ⟨rfl, by decide, rfl, rfl, by decide +kernel, by decide, by decide⟩
set_option maxRecDepth 100000 in
theorem okm_14 : okMp (yX1_find, cX1_find, 3, (some .int), 2, 1, 755, 90) := ⟨rfl, by decide, rfl, rfl, by decide +kernel, by decide, by decide⟩
set_option maxRecDepth 100000 in
theorem okm_15 : okMp (yX1_extend, cX1_extend, 5, none, 3, 1, 760, 90) := ⟨rfl, by decide, rfl, rfl, by decide +kernel, by decide, by decide⟩
set_option maxRecDepth 100000 in
theorem okm_16 : okMp (yX1_put, cX1_put, 5, none, 4, 1, 767, 90) := ⟨rfl, by decide, rfl, rfl, by decide +kernel, by decide, by decide⟩
set_option maxRecDepth 100000 in
theorem okm_17 : okMp (yX1_upperEnd, cX1_upperEnd, 2, (some .int), 1, 1, 786, 90) := ⟨rfl, by decide, rfl, rfl, by decide +kernel, by decide, by decide⟩
set_option maxRecDepth 100000 in
theorem okm_18 : okMp (yX1_lowestPlace, cX1_lowestPlace, 6, (some .int), 2, 1, 771, 90) := ⟨rfl, by decide, rfl, rfl, by decide +kernel, by decide, by decide⟩
set_option maxRecDepth 100000 in
theorem okm_19 : okMp (yX1_firstHit, cX1_firstHit, 8, (some .int), 3, 1, 775, 90) := ⟨rfl, by decide, rfl, rfl, by decide +kernel, by decide, by decide⟩
set_option maxRecDepth 100000 in
theorem okm_20 : okMp (yX2_isKind, cX2_isKind, 1, (some .boolean), 1, 2, 465, 95) := ⟨rfl, by decide, rfl, rfl, by decide +kernel, by decide, by decide⟩
set_option maxRecDepth 100000 in
theorem okm_21 : okMp (yX2_isOne, cX2_isOne, 4, (some .boolean), 2, 2, 462, 95) := ⟨rfl, by decide, rfl, rfl, by decide +kernel, by decide, by decide⟩
set_option maxRecDepth 100000 in
theorem okm_22 : okMp (yX2_isOver, cX2_isOver, 1, (some .boolean), 1, 2, 459, 95) := ⟨rfl, by decide, rfl, rfl, by decide +kernel, by decide, by decide⟩
set_option maxRecDepth 100000 in
theorem okm_23 : okMp (yX2_ticks, cX2_ticks, 2, (some .int), 2, 2, 698, 95) := ⟨rfl, by decide, rfl, rfl, by decide +kernel, by decide, by decide⟩
set_option maxRecDepth 100000 in
theorem okm_24 : okMp (yX2_scratch, cX2_scratch, 3, (some .int), 3, 2, 453, 95) := ⟨rfl, by decide, rfl, rfl, by decide +kernel, by decide, by decide⟩
set_option maxRecDepth 100000 in
theorem okm_25 : okMp (yX3_init, cX3_init, 1, none, 0, 3, 220, 88) := ⟨rfl, by decide, rfl, rfl, by decide +kernel, by decide, by decide⟩
set_option maxRecDepth 100000 in
theorem okm_26 : okMp (yX3_measure, cX3_measure, 6, none, 2, 3, 446, 88) := ⟨rfl, by decide, rfl, rfl, by decide +kernel, by decide, by decide⟩
set_option maxRecDepth 100000 in
theorem okm_27 : okMp (yX3_overAt, cX3_overAt, 8, (some .int), 2, 3, 491, 88) := ⟨rfl, by decide, rfl, rfl, by decide +kernel, by decide, by decide⟩
set_option maxRecDepth 100000 in
theorem okm_28 : okMp (yX3_isFirst, cX3_isFirst, 3, (some .boolean), 2, 3, 495, 88) := ⟨rfl, by decide, rfl, rfl, by decide +kernel, by decide, by decide⟩
set_option maxRecDepth 100000 in
theorem okm_29 : okMp (yX3_heldAfter, cX3_heldAfter, 6, (some .int), 1, 3, 499, 88) := ⟨rfl, by decide, rfl, rfl, by decide +kernel, by decide, by decide⟩
set_option maxRecDepth 100000 in
theorem okm_30 : okMp (yX3_loadAt, cX3_loadAt, 7, (some .int), 3, 3, 503, 88) := ⟨rfl, by decide, rfl, rfl, by decide +kernel, by decide, by decide⟩
set_option maxRecDepth 100000 in
theorem okm_31 : okMp (yX4_init, cX4_init, 1, none, 0, 4, 295, 89) := ⟨rfl, by decide, rfl, rfl, by decide +kernel, by decide, by decide⟩
set_option maxRecDepth 100000 in
theorem okm_32 : okMp (yX4_find, cX4_find, 4, none, 1, 4, 721, 89) := ⟨rfl, by decide, rfl, rfl, by decide +kernel, by decide, by decide⟩
set_option maxRecDepth 100000 in
theorem okm_33 : okMp (yX4_leastFrom, cX4_leastFrom, 6, (some .int), 2, 4, 725, 89) := ⟨rfl, by decide, rfl, rfl, by decide +kernel, by decide, by decide⟩
set_option maxRecDepth 100000 in
theorem okm_34 : okMp (yX4_peakThrough, cX4_peakThrough, 5, (some .int), 4, 4, 732, 89) := ⟨rfl, by decide, rfl, rfl, by decide +kernel, by decide, by decide⟩
set_option maxRecDepth 100000 in
theorem okm_35 : okMp (yX4_findRow, cX4_findRow, 5, none, 1, 4, 739, 89) := ⟨rfl, by decide, rfl, rfl, by decide +kernel, by decide, by decide⟩
set_option maxRecDepth 100000 in
theorem okm_36 : okMp (yX4_firstWithin, cX4_firstWithin, 5, (some .int), 2, 4, 743, 89) := ⟨rfl, by decide, rfl, rfl, by decide +kernel, by decide, by decide⟩
set_option maxRecDepth 100000 in
theorem okm_37 : okMp (yX5_init, cX5_init, 1, none, 0, 5, 362, 92) := ⟨rfl, by decide, rfl, rfl, by decide +kernel, by decide, by decide⟩
set_option maxRecDepth 100000 in
theorem okm_38 : okMp (yX5_spread, cX5_spread, 4, none, 1, 5, 862, 92) := ⟨rfl, by decide, rfl, rfl, by decide +kernel, by decide, by decide⟩
set_option maxRecDepth 100000 in
theorem okm_39 : okMp (yX5_together, cX5_together, 4, (some .int), 1, 5, 868, 92) := ⟨rfl, by decide, rfl, rfl, by decide +kernel, by decide, by decide⟩
set_option maxRecDepth 100000 in
theorem okm_40 : okMp (yX5_mostBehind, cX5_mostBehind, 6, (some .int), 2, 5, 872, 92) := ⟨rfl, by decide, rfl, rfl, by decide +kernel, by decide, by decide⟩
set_option maxRecDepth 100000 in
theorem okm_41 : okMp (yX5_bestOf, cX5_bestOf, 6, (some .int), 1, 5, 881, 92) := ⟨rfl, by decide, rfl, rfl, by decide +kernel, by decide, by decide⟩
set_option maxRecDepth 100000 in
theorem okm_42 : okMp (yX6_init, cX6_init, 1, none, 0, 6, 136, 86) := ⟨rfl, by decide, rfl, rfl, by decide +kernel, by decide, by decide⟩
set_option maxRecDepth 100000 in
theorem okm_43 : okMp (yX6_clear, cX6_clear, 2, none, 0, 6, 209, 86) := ⟨rfl, by decide, rfl, rfl, by decide +kernel, by decide, by decide⟩
set_option maxRecDepth 100000 in
theorem okm_44 : okMp (yX6_has, cX6_has, 2, (some .boolean), 1, 6, 600, 86) := ⟨rfl, by decide, rfl, rfl, by decide +kernel, by decide, by decide⟩
set_option maxRecDepth 100000 in
theorem okm_45 : okMp (yX6_hasStep, cX6_hasStep, 2, (some .boolean), 1, 6, 663, 86) := ⟨rfl, by decide, rfl, rfl, by decide +kernel, by decide, by decide⟩
set_option maxRecDepth 100000 in
theorem okm_46 : okMp (yX6_addTerm, cX6_addTerm, 5, none, 3, 6, 644, 86) := ⟨rfl, by decide, rfl, rfl, by decide +kernel, by decide, by decide⟩
set_option maxRecDepth 100000 in
theorem okm_47 : okMp (yX6_addStep, cX6_addStep, 3, (some .int), 1, 6, 592, 86) := ⟨rfl, by decide, rfl, rfl, by decide +kernel, by decide, by decide⟩
set_option maxRecDepth 100000 in
theorem okm_48 : okMp (yX6_addRead, cX6_addRead, 3, none, 2, 6, 608, 86) := ⟨rfl, by decide, rfl, rfl, by decide +kernel, by decide, by decide⟩
set_option maxRecDepth 100000 in
theorem okm_49 : okMp (yX6_addWrite, cX6_addWrite, 3, none, 2, 6, 620, 86) := ⟨rfl, by decide, rfl, rfl, by decide +kernel, by decide, by decide⟩
set_option maxRecDepth 100000 in
theorem okm_50 : okMp (yX6_isRead, cX6_isRead, 3, (some .boolean), 2, 6, 604, 86) := ⟨rfl, by decide, rfl, rfl, by decide +kernel, by decide, by decide⟩
set_option maxRecDepth 100000 in
theorem okm_51 : okMp (yX6_sizeOf, cX6_sizeOf, 5, (some .int), 2, 6, 450, 86) := ⟨rfl, by decide, rfl, rfl, by decide +kernel, by decide, by decide⟩
set_option maxRecDepth 100000 in
theorem okm_52 : okMp (yX6_ticksOf, cX6_ticksOf, 2, (some .int), 1, 6, 695, 86) := ⟨rfl, by decide, rfl, rfl, by decide +kernel, by decide, by decide⟩
set_option maxRecDepth 100000 in
theorem okm_53 : okMp (yX6_ticksOfAll, cX6_ticksOfAll, 3, (some .int), 0, 6, 691, 86) := ⟨rfl, by decide, rfl, rfl, by decide +kernel, by decide, by decide⟩
set_option maxRecDepth 100000 in
theorem okm_54 : okMp (yX6_isReady, cX6_isReady, 5, (some .boolean), 2, 6, 479, 86) := ⟨rfl, by decide, rfl, rfl, by decide +kernel, by decide, by decide⟩
set_option maxRecDepth 100000 in
theorem okm_55 : okMp (yX7_init, cX7_init, 1, none, 0, 7, 112, 85) := ⟨rfl, by decide, rfl, rfl, by decide +kernel, by decide, by decide⟩
set_option maxRecDepth 100000 in
theorem okm_56 : okMp (yX7_append, cX7_append, 5, none, 2, 7, 558, 85) := ⟨rfl, by decide, rfl, rfl, by decide +kernel, by decide, by decide⟩
set_option maxRecDepth 100000 in
theorem okm_57 : okMp (yX7_readInto, cX7_readInto, 3, (some .int), 1, 7, 566, 85) := ⟨rfl, by decide, rfl, rfl, by decide +kernel, by decide, by decide⟩
set_option maxRecDepth 100000 in
theorem okm_58 : okMp (yX7_readStatement, cX7_readStatement, 3, (some .boolean), 0, 7, 575, 85) := ⟨rfl, by decide, rfl, rfl, by decide +kernel, by decide, by decide⟩
set_option maxRecDepth 100000 in
theorem okm_59 : okMp (yX7_readWanted, cX7_readWanted, 2, (some .boolean), 1, 7, 632, 85) := ⟨rfl, by decide, rfl, rfl, by decide +kernel, by decide, by decide⟩
set_option maxRecDepth 100000 in
theorem okm_60 : okMp (yX7_readSize, cX7_readSize, 3, (some .boolean), 1, 7, 636, 85) := ⟨rfl, by decide, rfl, rfl, by decide +kernel, by decide, by decide⟩
set_option maxRecDepth 100000 in
theorem okm_61 : okMp (yX7_readTerm, cX7_readTerm, 4, (some .boolean), 1, 7, 640, 85) := ⟨rfl, by decide, rfl, rfl, by decide +kernel, by decide, by decide⟩
set_option maxRecDepth 100000 in
theorem okm_62 : okMp (yX7_readStep, cX7_readStep, 3, (some .boolean), 1, 7, 588, 85) := ⟨rfl, by decide, rfl, rfl, by decide +kernel, by decide, by decide⟩
set_option maxRecDepth 100000 in
theorem okm_63 : okMp (yX7_readReads, cX7_readReads, 4, none, 1, 7, 596, 85) := ⟨rfl, by decide, rfl, rfl, by decide +kernel, by decide, by decide⟩
set_option maxRecDepth 100000 in
theorem okm_64 : okMp (yX7_readWrite, cX7_readWrite, 3, (some .boolean), 1, 7, 616, 85) := ⟨rfl, by decide, rfl, rfl, by decide +kernel, by decide, by decide⟩
set_option maxRecDepth 100000 in
theorem okm_65 : okMp (yX7_readTime, cX7_readTime, 2, (some .boolean), 1, 7, 624, 85) := ⟨rfl, by decide, rfl, rfl, by decide +kernel, by decide, by decide⟩
set_option maxRecDepth 100000 in
theorem okm_66 : okMp (yX7_readNumber, cX7_readNumber, 3, (some .int), 0, 7, 628, 85) := ⟨rfl, by decide, rfl, rfl, by decide +kernel, by decide, by decide⟩
set_option maxRecDepth 100000 in
theorem okm_67 : okMp (yX7_skip, cX7_skip, 2, (some .boolean), 1, 7, 612, 85) := ⟨rfl, by decide, rfl, rfl, by decide +kernel, by decide, by decide⟩
set_option maxRecDepth 100000 in
theorem okm_68 : okMp (yX7_digitHere, cX7_digitHere, 1, (some .int), 0, 7, 583, 85) := ⟨rfl, by decide, rfl, rfl, by decide +kernel, by decide, by decide⟩
set_option maxRecDepth 100000 in
theorem okm_69 : okMp (yX7_bufferHere, cX7_bufferHere, 1, (some .int), 0, 7, 579, 85) := ⟨rfl, by decide, rfl, rfl, by decide +kernel, by decide, by decide⟩
set_option maxRecDepth 100000 in
theorem okm_70 : okMp (yX7_goTo, cX7_goTo, 2, none, 1, 7, 571, 85) := ⟨rfl, by decide, rfl, rfl, by decide +kernel, by decide, by decide⟩
set_option maxRecDepth 100000 in
theorem okm_71 : okMp (yX8_init, cX8_init, 1, none, 0, 8, 345, 91) := ⟨rfl, by decide, rfl, rfl, by decide +kernel, by decide, by decide⟩
set_option maxRecDepth 100000 in
theorem okm_72 : okMp (yX8_find, cX8_find, 9, (some .int), 4, 8, 823, 91) := ⟨rfl, by decide, rfl, rfl, by decide +kernel, by decide, by decide⟩
set_option maxRecDepth 100000 in
theorem okm_73 : okMp (yX8_buffersOf, cX8_buffersOf, 4, (some .int), 1, 8, 827, 91) := ⟨rfl, by decide, rfl, rfl, by decide +kernel, by decide, by decide⟩
set_option maxRecDepth 100000 in
theorem okm_74 : okMp (yX8_timeOf, cX8_timeOf, 7, (some .int), 2, 8, 831, 91) := ⟨rfl, by decide, rfl, rfl, by decide +kernel, by decide, by decide⟩
set_option maxRecDepth 100000 in
theorem okm_75 : okMp (yX8_fits, cX8_fits, 4, (some .boolean), 2, 8, 846, 91) := ⟨rfl, by decide, rfl, rfl, by decide +kernel, by decide, by decide⟩
set_option maxRecDepth 100000 in
theorem okm_76 : okMp (yX8_outAt, cX8_outAt, 5, (some .int), 2, 8, 850, 91) := ⟨rfl, by decide, rfl, rfl, by decide +kernel, by decide, by decide⟩
set_option maxRecDepth 100000 in
theorem okm_77 : okMp (yX9_init, cX9_init, 1, none, 0, 9, 406, 94) := ⟨rfl, by decide, rfl, rfl, by decide +kernel, by decide, by decide⟩
set_option maxRecDepth 100000 in
theorem okm_78 : okMp (yX9_become, cX9_become, 4, none, 2, 9, 988, 94) := ⟨rfl, by decide, rfl, rfl, by decide +kernel, by decide, by decide⟩
set_option maxRecDepth 100000 in
theorem okm_79 : okMp (yX9_put, cX9_put, 3, none, 2, 9, 1000, 94) := ⟨rfl, by decide, rfl, rfl, by decide +kernel, by decide, by decide⟩
set_option maxRecDepth 100000 in
theorem okm_80 : okMp (yX9_spans, cX9_spans, 3, (some .boolean), 2, 9, 996, 94) := ⟨rfl, by decide, rfl, rfl, by decide +kernel, by decide, by decide⟩
set_option maxRecDepth 100000 in
theorem okm_81 : okMp (yX10_init, cX10_init, 1, none, 0, 10, 214, 87) := ⟨rfl, by decide, rfl, rfl, by decide +kernel, by decide, by decide⟩
set_option maxRecDepth 100000 in
theorem okm_82 : okMp (yX10_renew, cX10_renew, 3, none, 2, 10, 442, 87) := ⟨rfl, by decide, rfl, rfl, by decide +kernel, by decide, by decide⟩
set_option maxRecDepth 100000 in
theorem okm_83 : okMp (yX10_firstWrong, cX10_firstWrong, 6, (some .int), 2, 10, 659, 87) := ⟨rfl, by decide, rfl, rfl, by decide +kernel, by decide, by decide⟩
set_option maxRecDepth 100000 in
theorem okm_84 : okMp (yX10_tell, cX10_tell, 3, none, 1, 10, 667, 87) := ⟨rfl, by decide, rfl, rfl, by decide +kernel, by decide, by decide⟩
set_option maxRecDepth 100000 in
theorem okm_85 : okMp (yX10_findOrder, cX10_findOrder, 4, (some .boolean), 0, 10, 471, 87) := ⟨rfl, by decide, rfl, rfl, by decide +kernel, by decide, by decide⟩
set_option maxRecDepth 100000 in
theorem okm_86 : okMp (yX10_leastReady, cX10_leastReady, 3, (some .int), 1, 10, 475, 87) := ⟨rfl, by decide, rfl, rfl, by decide +kernel, by decide, by decide⟩
set_option maxRecDepth 100000 in
theorem okm_87 : okMp (yX10_findLives, cX10_findLives, 4, none, 0, 10, 483, 87) := ⟨rfl, by decide, rfl, rfl, by decide +kernel, by decide, by decide⟩
set_option maxRecDepth 100000 in
theorem okm_88 : okMp (yX10_findLoads, cX10_findLoads, 4, none, 0, 10, 487, 87) := ⟨rfl, by decide, rfl, rfl, by decide +kernel, by decide, by decide⟩
set_option maxRecDepth 100000 in
theorem okm_89 : okMp (yX10_placeOfPeak, cX10_placeOfPeak, 3, (some .int), 0, 10, 702, 87) := ⟨rfl, by decide, rfl, rfl, by decide +kernel, by decide, by decide⟩
set_option maxRecDepth 100000 in
theorem okm_90 : okMp (yX10_isAlive, cX10_isAlive, 2, (some .boolean), 1, 10, 902, 87) := ⟨rfl, by decide, rfl, rfl, by decide +kernel, by decide, by decide⟩
set_option maxRecDepth 100000 in
theorem okm_91 : okMp (yX10_areAlive, cX10_areAlive, 3, (some .boolean), 2, 10, 779, 87) := ⟨rfl, by decide, rfl, rfl, by decide +kernel, by decide, by decide⟩
set_option maxRecDepth 100000 in
theorem okm_92 : okMp (yX10_hinder, cX10_hinder, 6, (some .boolean), 2, 10, 812, 87) := ⟨rfl, by decide, rfl, rfl, by decide +kernel, by decide, by decide⟩
set_option maxRecDepth 100000 in
theorem okm_93 : okMp (yX10_idlePlaces, cX10_idlePlaces, 5, (some .int), 1, 10, 835, 87) := ⟨rfl, by decide, rfl, rfl, by decide +kernel, by decide, by decide⟩
set_option maxRecDepth 100000 in
theorem okm_94 : okMp (yX11_init, cX11_init, 2, none, 0, 11, 104, 84) := ⟨rfl, by decide, rfl, rfl, by decide +kernel, by decide, by decide⟩
set_option maxRecDepth 100000 in
theorem okm_95 : okMp (yX11_feed, cX11_feed, 4, (some .int), 2, 11, 554, 84) := ⟨rfl, by decide, rfl, rfl, by decide +kernel, by decide, by decide⟩
set_option maxRecDepth 100000 in
theorem okm_96 : okMp (yX11_program, cX11_program, 3, (some .int), 0, 11, 562, 84) := ⟨rfl, by decide, rfl, rfl, by decide +kernel, by decide, by decide⟩
set_option maxRecDepth 100000 in
theorem okm_97 : okMp (yX11_letter, cX11_letter, 4, (some .int), 2, 11, 648, 84) := ⟨rfl, by decide, rfl, rfl, by decide +kernel, by decide, by decide⟩
set_option maxRecDepth 100000 in
theorem okm_98 : okMp (yX11_order, cX11_order, 4, (some .int), 1, 11, 652, 84) := ⟨rfl, by decide, rfl, rfl, by decide +kernel, by decide, by decide⟩
set_option maxRecDepth 100000 in
theorem okm_99 : okMp (yX11_orderTold, cX11_orderTold, 3, (some .int), 1, 11, 671, 84) := ⟨rfl, by decide, rfl, rfl, by decide +kernel, by decide, by decide⟩
set_option maxRecDepth 100000 in
theorem okm_100 : okMp (yX11_load, cX11_load, 3, (some .int), 1, 11, 679, 84) := ⟨rfl, by decide, rfl, rfl, by decide +kernel, by decide, by decide⟩
set_option maxRecDepth 100000 in
theorem okm_101 : okMp (yX11_over, cX11_over, 3, (some .int), 1, 11, 683, 84) := ⟨rfl, by decide, rfl, rfl, by decide +kernel, by decide, by decide⟩
set_option maxRecDepth 100000 in
theorem okm_102 : okMp (yX11_peak, cX11_peak, 3, (some .int), 1, 11, 687, 84) := ⟨rfl, by decide, rfl, rfl, by decide +kernel, by decide, by decide⟩
set_option maxRecDepth 100000 in
theorem okm_103 : okMp (yX11_bufferTold, cX11_bufferTold, 3, (some .int), 2, 11, 706, 84) := ⟨rfl, by decide, rfl, rfl, by decide +kernel, by decide, by decide⟩
set_option maxRecDepth 100000 in
theorem okm_104 : okMp (yX11_stepTold, cX11_stepTold, 3, (some .int), 2, 11, 711, 84) := ⟨rfl, by decide, rfl, rfl, by decide +kernel, by decide, by decide⟩
set_option maxRecDepth 100000 in
theorem okm_105 : okMp (yX11_leastPeak, cX11_leastPeak, 2, (some .int), 1, 11, 717, 84) := ⟨rfl, by decide, rfl, rfl, by decide +kernel, by decide, by decide⟩
set_option maxRecDepth 100000 in
theorem okm_106 : okMp (yX11_height, cX11_height, 3, (some .int), 1, 11, 747, 84) := ⟨rfl, by decide, rfl, rfl, by decide +kernel, by decide, by decide⟩
set_option maxRecDepth 100000 in
theorem okm_107 : okMp (yX11_heightAt, cX11_heightAt, 2, (some .int), 1, 11, 791, 84) := ⟨rfl, by decide, rfl, rfl, by decide +kernel, by decide, by decide⟩
set_option maxRecDepth 100000 in
theorem okm_108 : okMp (yX11_lay, cX11_lay, 4, (some .int), 2, 11, 795, 84) := ⟨rfl, by decide, rfl, rfl, by decide +kernel, by decide, by decide⟩
set_option maxRecDepth 100000 in
theorem okm_109 : okMp (yX11_clash, cX11_clash, 3, (some .int), 0, 11, 803, 84) := ⟨rfl, by decide, rfl, rfl, by decide +kernel, by decide, by decide⟩
set_option maxRecDepth 100000 in
theorem okm_110 : okMp (yX11_sendOut, cX11_sendOut, 6, (some .int), 3, 11, 819, 84) := ⟨rfl, by decide, rfl, rfl, by decide +kernel, by decide, by decide⟩
set_option maxRecDepth 100000 in
theorem okm_111 : okMp (yX11_outs, cX11_outs, 1, (some .int), 0, 11, 854, 84) := ⟨rfl, by decide, rfl, rfl, by decide +kernel, by decide, by decide⟩
set_option maxRecDepth 100000 in
theorem okm_112 : okMp (yX11_pair, cX11_pair, 2, (some .int), 1, 11, 858, 84) := ⟨rfl, by decide, rfl, rfl, by decide +kernel, by decide, by decide⟩
set_option maxRecDepth 100000 in
theorem okm_113 : okMp (yX11_bestPhase, cX11_bestPhase, 2, (some .int), 1, 11, 877, 84) := ⟨rfl, by decide, rfl, rfl, by decide +kernel, by decide, by decide⟩
set_option maxRecDepth 100000 in
theorem okm_114 : okMp (yX11_rule, cX11_rule, 3, (some .int), 1, 11, 886, 84) := ⟨rfl, by decide, rfl, rfl, by decide +kernel, by decide, by decide⟩
set_option maxRecDepth 100000 in
theorem okm_115 : okMp (yX11_go, cX11_go, 3, (some .int), 1, 11, 890, 84) := ⟨rfl, by decide, rfl, rfl, by decide +kernel, by decide, by decide⟩
set_option maxRecDepth 100000 in
theorem okm_116 : okMp (yX11_compact, cX11_compact, 1, (some .int), 0, 11, 927, 84) := ⟨rfl, by decide, rfl, rfl, by decide +kernel, by decide, by decide⟩
set_option maxRecDepth 100000 in
theorem okm_117 : okMp (yX11_roomTold, cX11_roomTold, 3, (some .int), 2, 11, 939, 84) := ⟨rfl, by decide, rfl, rfl, by decide +kernel, by decide, by decide⟩
set_option maxRecDepth 100000 in
theorem okm_118 : okMp (yX11_holder, cX11_holder, 2, (some .int), 1, 11, 944, 84) := ⟨rfl, by decide, rfl, rfl, by decide +kernel, by decide, by decide⟩
set_option maxRecDepth 100000 in
theorem okm_119 : okMp (yX11_again, cX11_again, 2, (some .int), 0, 11, 952, 84) := ⟨rfl, by decide, rfl, rfl, by decide +kernel, by decide, by decide⟩
set_option maxRecDepth 100000 in
theorem okm_120 : okMp (yX11_image, cX11_image, 1, (some .int), 0, 11, 956, 84) := ⟨rfl, by decide, rfl, rfl, by decide +kernel, by decide, by decide⟩
set_option maxRecDepth 100000 in
theorem okm_121 : okMp (yX11_back, cX11_back, 1, (some .int), 0, 11, 965, 84) := ⟨rfl, by decide, rfl, rfl, by decide +kernel, by decide, by decide⟩
set_option maxRecDepth 100000 in
theorem okm_122 : okMp (yX11_kindTold, cX11_kindTold, 5, (some .int), 4, 11, 969, 84) := ⟨rfl, by decide, rfl, rfl, by decide +kernel, by decide, by decide⟩
set_option maxRecDepth 100000 in
theorem okm_123 : okMp (yX11_count, cX11_count, 2, (some .int), 1, 11, 977, 84) := ⟨rfl, by decide, rfl, rfl, by decide +kernel, by decide, by decide⟩
set_option maxRecDepth 100000 in
theorem okm_124 : okMp (yX11_sheet, cX11_sheet, 4, (some .int), 3, 11, 981, 84) := ⟨rfl, by decide, rfl, rfl, by decide +kernel, by decide, by decide⟩
set_option maxRecDepth 100000 in
theorem okm_125 : okMp (yX11_cell, cX11_cell, 4, (some .int), 3, 11, 992, 84) := ⟨rfl, by decide, rfl, rfl, by decide +kernel, by decide, by decide⟩
set_option maxRecDepth 100000 in
theorem okm_126 : okMp (yX11_copy, cX11_copy, 8, (some .int), 5, 11, 1004, 84) := ⟨rfl, by decide, rfl, rfl, by decide +kernel, by decide, by decide⟩
set_option maxRecDepth 100000 in
theorem okm_127 : okMp (yX11_lays, cX11_lays, 10, (some .int), 4, 11, 1009, 84) := ⟨rfl, by decide, rfl, rfl, by decide +kernel, by decide, by decide⟩
set_option maxRecDepth 100000 in
theorem okm_128 : okMp (yX11_taken, cX11_taken, 5, (some .int), 3, 11, 1013, 84) := ⟨rfl, by decide, rfl, rfl, by decide +kernel, by decide, by decide⟩
set_option maxRecDepth 100000 in
theorem okm_129 : okMp (yX11_isSheet, cX11_isSheet, 1, (some .boolean), 1, 11, 655, 84) := ⟨rfl, by decide, rfl, rfl, by decide +kernel, by decide, by decide⟩
set_option maxRecDepth 100000 in
theorem okm_130 : okMp (yX11_isSort, cX11_isSort, 1, (some .boolean), 1, 11, 984, 84) := ⟨rfl, by decide, rfl, rfl, by decide +kernel, by decide, by decide⟩
set_option maxRecDepth 100000 in
theorem okm_131 : okMp (yX11_isPlanned, cX11_isPlanned, 1, (some .boolean), 1, 11, 798, 84) := ⟨rfl, by decide, rfl, rfl, by decide +kernel, by decide, by decide⟩
set_option maxRecDepth 100000 in
theorem okm_132 : okMp (yX11_shareCells, cX11_shareCells, 4, (some .boolean), 4, 11, 782, 84) := ⟨rfl, by decide, rfl, rfl, by decide +kernel, by decide, by decide⟩
set_option maxRecDepth 100000 in
theorem okm_133 : okMp (yX11_begin, cX11_begin, 2, none, 0, 11, 430, 84) := ⟨rfl, by decide, rfl, rfl, by decide +kernel, by decide, by decide⟩
set_option maxRecDepth 100000 in
theorem okm_134 : okMp (yX11_renew, cX11_renew, 1, none, 0, 11, 438, 84) := ⟨rfl, by decide, rfl, rfl, by decide +kernel, by decide, by decide⟩
set_option maxRecDepth 100000 in
theorem okm_135 : okMp (yX11_refusalOfPlace, cX11_refusalOfPlace, 2, (some .int), 1, 11, 675, 84) := ⟨rfl, by decide, rfl, rfl, by decide +kernel, by decide, by decide⟩
set_option maxRecDepth 100000 in
theorem okm_136 : okMp (yX11_refusalOfBuffers, cX11_refusalOfBuffers, 4, (some .int), 1, 11, 751, 84) := ⟨rfl, by decide, rfl, rfl, by decide +kernel, by decide, by decide⟩
set_option maxRecDepth 100000 in
theorem okm_137 : okMp (yX11_plannedTogether, cX11_plannedTogether, 4, (some .boolean), 2, 11, 807, 84) := ⟨rfl, by decide, rfl, rfl, by decide +kernel, by decide, by decide⟩
set_option maxRecDepth 100000 in
theorem okm_138 : okMp (yX12_init, cX12_init, 1, none, 0, 12, 1019, 97) := ⟨rfl, by decide, rfl, rfl, by decide +kernel, by decide, by decide⟩
set_option maxRecDepth 100000 in
theorem okm_139 : okMp (yX12_in, cX12_in, 3, (some .boolean), 3, 12, 1190, 97) := ⟨rfl, by decide, rfl, rfl, by decide +kernel, by decide, by decide⟩
set_option maxRecDepth 100000 in
theorem okm_140 : okMp (yX12_feed, cX12_feed, 5, (some .int), 2, 12, 1187, 97) := ⟨rfl, by decide, rfl, rfl, by decide +kernel, by decide, by decide⟩
set_option maxRecDepth 100000 in
theorem okm_141 : okMp (yX12_here, cX12_here, 1, (some .int), 0, 12, 1207, 97) := ⟨rfl, by decide, rfl, rfl, by decide +kernel, by decide, by decide⟩
set_option maxRecDepth 100000 in
theorem okm_142 : okMp (yX12_number, cX12_number, 3, (some .int), 0, 12, 1227, 97) := ⟨rfl, by decide, rfl, rfl, by decide +kernel, by decide, by decide⟩
set_option maxRecDepth 100000 in
theorem okm_143 : okMp (yX12_eats, cX12_eats, 3, (some .boolean), 1, 12, 1219, 97) := ⟨rfl, by decide, rfl, rfl, by decide +kernel, by decide, by decide⟩
set_option maxRecDepth 100000 in
theorem okm_144 : okMp (yX12_readsSize, cX12_readsSize, 5, (some .boolean), 1, 12, 1231, 97) := ⟨rfl, by decide, rfl, rfl, by decide +kernel, by decide, by decide⟩
set_option maxRecDepth 100000 in
theorem okm_145 : okMp (yX12_isWritten, cX12_isWritten, 3, (some .boolean), 1, 12, 1223, 97) := ⟨rfl, by decide, rfl, rfl, by decide +kernel, by decide, by decide⟩
set_option maxRecDepth 100000 in
theorem okm_146 : okMp (yX12_isRead, cX12_isRead, 5, (some .boolean), 3, 12, 1215, 97) := ⟨rfl, by decide, rfl, rfl, by decide +kernel, by decide, by decide⟩
set_option maxRecDepth 100000 in
theorem okm_147 : okMp (yX12_readsStep, cX12_readsStep, 4, (some .boolean), 0, 12, 1211, 97) := ⟨rfl, by decide, rfl, rfl, by decide +kernel, by decide, by decide⟩
set_option maxRecDepth 100000 in
theorem okm_148 : okMp (yX12_readsOne, cX12_readsOne, 4, (some .boolean), 0, 12, 1203, 97) := ⟨rfl, by decide, rfl, rfl, by decide +kernel, by decide, by decide⟩
set_option maxRecDepth 100000 in
theorem okm_149 : okMp (yX12_begins, cX12_begins, 2, none, 0, 12, 1199, 97) := ⟨rfl, by decide, rfl, rfl, by decide +kernel, by decide, by decide⟩
set_option maxRecDepth 100000 in
theorem okm_150 : okMp (yX12_takes, cX12_takes, 3, none, 0, 12, 1235, 97) := ⟨rfl, by decide, rfl, rfl, by decide +kernel, by decide, by decide⟩
set_option maxRecDepth 100000 in
theorem okm_151 : okMp (yX12_program, cX12_program, 2, (some .int), 0, 12, 1195, 97) := ⟨rfl, by decide, rfl, rfl, by decide +kernel, by decide, by decide⟩
set_option maxRecDepth 100000 in
theorem okm_152 : okMp (yX12_letter, cX12_letter, 4, (some .int), 2, 12, 1243, 97) := ⟨rfl, by decide, rfl, rfl, by decide +kernel, by decide, by decide⟩
set_option maxRecDepth 100000 in
theorem okm_153 : okMp (yX12_isBuffer, cX12_isBuffer, 2, (some .boolean), 1, 12, 1328, 97) := ⟨rfl, by decide, rfl, rfl, by decide +kernel, by decide, by decide⟩
set_option maxRecDepth 100000 in
theorem okm_154 : okMp (yX12_sizeOf, cX12_sizeOf, 5, (some .int), 1, 12, 1304, 97) := ⟨rfl, by decide, rfl, rfl, by decide +kernel, by decide, by decide⟩
set_option maxRecDepth 100000 in
theorem okm_155 : okMp (yX12_ticksOf, cX12_ticksOf, 2, (some .int), 2, 12, 1250, 97) := ⟨rfl, by decide, rfl, rfl, by decide +kernel, by decide, by decide⟩
set_option maxRecDepth 100000 in
theorem okm_156 : okMp (yX12_scratchOf, cX12_scratchOf, 3, (some .int), 3, 12, 1253, 97) := ⟨rfl, by decide, rfl, rfl, by decide +kernel, by decide, by decide⟩
set_option maxRecDepth 100000 in
theorem okm_157 : okMp (yX12_isOver, cX12_isOver, 1, (some .boolean), 1, 12, 1256, 97) := ⟨rfl, by decide, rfl, rfl, by decide +kernel, by decide, by decide⟩
set_option maxRecDepth 100000 in
theorem okm_158 : okMp (yX12_kindTold, cX12_kindTold, 5, (some .int), 4, 12, 1247, 97) := ⟨rfl, by decide, rfl, rfl, by decide +kernel, by decide, by decide⟩
set_option maxRecDepth 100000 in
theorem okm_159 : okMp (yX12_scratch, cX12_scratch, 4, (some .int), 1, 12, 1300, 97) := ⟨rfl, by decide, rfl, rfl, by decide +kernel, by decide, by decide⟩
set_option maxRecDepth 100000 in
theorem okm_160 : okMp (yX12_doesRead, cX12_doesRead, 4, (some .boolean), 2, 12, 1288, 97) := ⟨rfl, by decide, rfl, rfl, by decide +kernel, by decide, by decide⟩
set_option maxRecDepth 100000 in
theorem okm_161 : okMp (yX12_writerOf, cX12_writerOf, 3, (some .int), 1, 12, 1268, 97) := ⟨rfl, by decide, rfl, rfl, by decide +kernel, by decide, by decide⟩
set_option maxRecDepth 100000 in
theorem okm_162 : okMp (yX12_isReady, cX12_isReady, 5, (some .boolean), 2, 12, 1264, 97) := ⟨rfl, by decide, rfl, rfl, by decide +kernel, by decide, by decide⟩
set_option maxRecDepth 100000 in
theorem okm_163 : okMp (yX12_orders, cX12_orders, 4, (some .boolean), 0, 12, 1280, 97) := ⟨rfl, by decide, rfl, rfl, by decide +kernel, by decide, by decide⟩
set_option maxRecDepth 100000 in
theorem okm_164 : okMp (yX12_lives, cX12_lives, 3, none, 1, 12, 1284, 97) := ⟨rfl, by decide, rfl, rfl, by decide +kernel, by decide, by decide⟩
set_option maxRecDepth 100000 in
theorem okm_165 : okMp (yX12_isAlive, cX12_isAlive, 3, (some .boolean), 2, 12, 1308, 97) := ⟨rfl, by decide, rfl, rfl, by decide +kernel, by decide, by decide⟩
set_option maxRecDepth 100000 in
theorem okm_166 : okMp (yX12_order, cX12_order, 5, (some .int), 1, 12, 1260, 97) := ⟨rfl, by decide, rfl, rfl, by decide +kernel, by decide, by decide⟩
set_option maxRecDepth 100000 in
theorem okm_167 : okMp (yX12_isPlace, cX12_isPlace, 2, (some .boolean), 1, 12, 1276, 97) := ⟨rfl, by decide, rfl, rfl, by decide +kernel, by decide, by decide⟩
set_option maxRecDepth 100000 in
theorem okm_168 : okMp (yX12_orderTold, cX12_orderTold, 2, (some .int), 1, 12, 1272, 97) := ⟨rfl, by decide, rfl, rfl, by decide +kernel, by decide, by decide⟩
set_option maxRecDepth 100000 in
theorem okm_169 : okMp (yX12_overAt, cX12_overAt, 5, (some .int), 1, 12, 1312, 97) := ⟨rfl, by decide, rfl, rfl, by decide +kernel, by decide, by decide⟩
set_option maxRecDepth 100000 in
theorem okm_170 : okMp (yX12_loadAt, cX12_loadAt, 6, (some .int), 1, 12, 1296, 97) := ⟨rfl, by decide, rfl, rfl, by decide +kernel, by decide, by decide⟩
set_option maxRecDepth 100000 in
theorem okm_171 : okMp (yX12_load, cX12_load, 2, (some .int), 1, 12, 1292, 97) := ⟨rfl, by decide, rfl, rfl, by decide +kernel, by decide, by decide⟩
set_option maxRecDepth 100000 in
theorem okm_172 : okMp (yX12_over, cX12_over, 2, (some .int), 1, 12, 1316, 97) := ⟨rfl, by decide, rfl, rfl, by decide +kernel, by decide, by decide⟩
set_option maxRecDepth 100000 in
theorem okm_173 : okMp (yX12_peak, cX12_peak, 6, (some .int), 1, 12, 1320, 97) := ⟨rfl, by decide, rfl, rfl, by decide +kernel, by decide, by decide⟩
set_option maxRecDepth 100000 in
theorem okm_174 : okMp (yX12_bufferTold, cX12_bufferTold, 3, (some .int), 2, 12, 1324, 97) := ⟨rfl, by decide, rfl, rfl, by decide +kernel, by decide, by decide⟩
set_option maxRecDepth 100000 in
theorem okm_175 : okMp (yX12_stepTold, cX12_stepTold, 3, (some .int), 2, 12, 1332, 97) := ⟨rfl, by decide, rfl, rfl, by decide +kernel, by decide, by decide⟩
set_option maxRecDepth 100000 in
theorem okm_176 : okMp (yX12_isNeeded, cX12_isNeeded, 4, (some .boolean), 2, 12, 1348, 97) := ⟨rfl, by decide, rfl, rfl, by decide +kernel, by decide, by decide⟩
set_option maxRecDepth 100000 in
theorem okm_177 : okMp (yX12_loadOf, cX12_loadOf, 10, (some .int), 2, 12, 1344, 97) := ⟨rfl, by decide, rfl, rfl, by decide +kernel, by decide, by decide⟩
set_option maxRecDepth 100000 in
theorem okm_178 : okMp (yX12_peakBy, cX12_peakBy, 5, (some .int), 2, 12, 1340, 97) := ⟨rfl, by decide, rfl, rfl, by decide +kernel, by decide, by decide⟩
set_option maxRecDepth 100000 in
theorem okm_179 : okMp (yX12_leastPeak, cX12_leastPeak, 7, (some .int), 1, 12, 1336, 97) := ⟨rfl, by decide, rfl, rfl, by decide +kernel, by decide, by decide⟩
set_option maxRecDepth 100000 in
theorem okm_180 : okMp (yX12_shares, cX12_shares, 4, (some .boolean), 2, 12, 1364, 97) := ⟨rfl, by decide, rfl, rfl, by decide +kernel, by decide, by decide⟩
set_option maxRecDepth 100000 in
theorem okm_181 : okMp (yX12_meet, cX12_meet, 4, (some .boolean), 4, 12, 1367, 97) := ⟨rfl, by decide, rfl, rfl, by decide +kernel, by decide, by decide⟩
set_option maxRecDepth 100000 in
theorem okm_182 : okMp (yX12_laysRow, cX12_laysRow, 11, (some .int), 2, 12, 1360, 97) := ⟨rfl, by decide, rfl, rfl, by decide +kernel, by decide, by decide⟩
set_option maxRecDepth 100000 in
theorem okm_183 : okMp (yX12_nextRow, cX12_nextRow, 8, (some .boolean), 1, 12, 1371, 97) := ⟨rfl, by decide, rfl, rfl, by decide +kernel, by decide, by decide⟩
set_option maxRecDepth 100000 in
theorem okm_184 : okMp (yX12_barred, cX12_barred, 3, (some .int), 1, 12, 1356, 97) := ⟨rfl, by decide, rfl, rfl, by decide +kernel, by decide, by decide⟩
set_option maxRecDepth 100000 in
theorem okm_185 : okMp (yX12_height, cX12_height, 8, (some .int), 1, 12, 1352, 97) := ⟨rfl, by decide, rfl, rfl, by decide +kernel, by decide, by decide⟩
set_option maxRecDepth 100000 in
theorem okm_186 : okMp (yX12_heightAt, cX12_heightAt, 2, (some .int), 1, 12, 1375, 97) := ⟨rfl, by decide, rfl, rfl, by decide +kernel, by decide, by decide⟩
set_option maxRecDepth 100000 in
theorem okm_187 : okMp (yX12_lay, cX12_lay, 4, (some .int), 2, 12, 1379, 97) := ⟨rfl, by decide, rfl, rfl, by decide +kernel, by decide, by decide⟩
set_option maxRecDepth 100000 in
theorem okm_188 : okMp (yX12_doClash, cX12_doClash, 7, (some .boolean), 2, 12, 1388, 97) := ⟨rfl, by decide, rfl, rfl, by decide +kernel, by decide, by decide⟩
set_option maxRecDepth 100000 in
theorem okm_189 : okMp (yX12_clash, cX12_clash, 3, (some .int), 0, 12, 1384, 97) := ⟨rfl, by decide, rfl, rfl, by decide +kernel, by decide, by decide⟩
set_option maxRecDepth 100000 in
theorem okm_190 : okMp (yX12_isOut, cX12_isOut, 3, (some .boolean), 2, 12, 1400, 97) := ⟨rfl, by decide, rfl, rfl, by decide +kernel, by decide, by decide⟩
set_option maxRecDepth 100000 in
theorem okm_191 : okMp (yX12_timeOut, cX12_timeOut, 5, (some .int), 2, 12, 1396, 97) := ⟨rfl, by decide, rfl, rfl, by decide +kernel, by decide, by decide⟩
set_option maxRecDepth 100000 in
theorem okm_192 : okMp (yX12_fits, cX12_fits, 6, (some .boolean), 2, 12, 1404, 97) := ⟨rfl, by decide, rfl, rfl, by decide +kernel, by decide, by decide⟩
set_option maxRecDepth 100000 in
theorem okm_193 : okMp (yX12_sendOut, cX12_sendOut, 9, (some .int), 3, 12, 1392, 97) := ⟨rfl, by decide, rfl, rfl, by decide +kernel, by decide, by decide⟩
set_option maxRecDepth 100000 in
theorem okm_194 : okMp (yX12_outs, cX12_outs, 1, (some .int), 0, 12, 1408, 97) := ⟨rfl, by decide, rfl, rfl, by decide +kernel, by decide, by decide⟩
set_option maxRecDepth 100000 in
theorem okm_195 : okMp (yX12_holds, cX12_holds, 5, none, 0, 12, 1416, 97) := ⟨rfl, by decide, rfl, rfl, by decide +kernel, by decide, by decide⟩
set_option maxRecDepth 100000 in
theorem okm_196 : okMp (yX12_pairBy, cX12_pairBy, 5, (some .int), 1, 12, 1420, 97) := ⟨rfl, by decide, rfl, rfl, by decide +kernel, by decide, by decide⟩
set_option maxRecDepth 100000 in
theorem okm_197 : okMp (yX12_pair, cX12_pair, 2, (some .int), 1, 12, 1412, 97) := ⟨rfl, by decide, rfl, rfl, by decide +kernel, by decide, by decide⟩
set_option maxRecDepth 100000 in
theorem okm_198 : okMp (yX12_bestPhase, cX12_bestPhase, 6, (some .int), 1, 12, 1424, 97) := ⟨rfl, by decide, rfl, rfl, by decide +kernel, by decide, by decide⟩
set_option maxRecDepth 100000 in
theorem okm_199 : okMp (yX12_rule, cX12_rule, 3, (some .int), 1, 12, 1428, 97) := ⟨rfl, by decide, rfl, rfl, by decide +kernel, by decide, by decide⟩
set_option maxRecDepth 100000 in
theorem okm_200 : okMp (yX12_top, cX12_top, 3, (some .int), 0, 12, 1452, 97) := ⟨rfl, by decide, rfl, rfl, by decide +kernel, by decide, by decide⟩
set_option maxRecDepth 100000 in
theorem okm_201 : okMp (yX12_nextAbove, cX12_nextAbove, 4, (some .int), 1, 12, 1444, 97) := ⟨rfl, by decide, rfl, rfl, by decide +kernel, by decide, by decide⟩
set_option maxRecDepth 100000 in
theorem okm_202 : okMp (yX12_puts, cX12_puts, 9, none, 1, 12, 1440, 97) := ⟨rfl, by decide, rfl, rfl, by decide +kernel, by decide, by decide⟩
set_option maxRecDepth 100000 in
theorem okm_203 : okMp (yX12_endAt, cX12_endAt, 4, (some .int), 1, 12, 1448, 97) := ⟨rfl, by decide, rfl, rfl, by decide +kernel, by decide, by decide⟩
set_option maxRecDepth 100000 in
theorem okm_204 : okMp (yX12_goes, cX12_goes, 5, none, 0, 12, 1436, 97) := ⟨rfl, by decide, rfl, rfl, by decide +kernel, by decide, by decide⟩
set_option maxRecDepth 100000 in
theorem okm_205 : okMp (yX12_go, cX12_go, 3, (some .int), 1, 12, 1432, 97) := ⟨rfl, by decide, rfl, rfl, by decide +kernel, by decide, by decide⟩
set_option maxRecDepth 100000 in
theorem okm_206 : okMp (yX12_compact, cX12_compact, 7, (some .int), 0, 12, 1456, 97) := ⟨rfl, by decide, rfl, rfl, by decide +kernel, by decide, by decide⟩
set_option maxRecDepth 100000 in
theorem okm_207 : okMp (yX12_roomTold, cX12_roomTold, 3, (some .int), 2, 12, 1460, 97) := ⟨rfl, by decide, rfl, rfl, by decide +kernel, by decide, by decide⟩
set_option maxRecDepth 100000 in
theorem okm_208 : okMp (yX12_holder, cX12_holder, 3, (some .int), 1, 12, 1464, 97) := ⟨rfl, by decide, rfl, rfl, by decide +kernel, by decide, by decide⟩
set_option maxRecDepth 100000 in
theorem okm_209 : okMp (yX12_again, cX12_again, 3, (some .int), 0, 12, 1239, 97) := ⟨rfl, by decide, rfl, rfl, by decide +kernel, by decide, by decide⟩
set_option maxRecDepth 100000 in
theorem okm_210 : okMp (yX12_image, cX12_image, 2, (some .int), 0, 12, 1469, 97) := ⟨rfl, by decide, rfl, rfl, by decide +kernel, by decide, by decide⟩
set_option maxRecDepth 100000 in
theorem okm_211 : okMp (yX12_back, cX12_back, 2, (some .int), 0, 12, 1473, 97) := ⟨rfl, by decide, rfl, rfl, by decide +kernel, by decide, by decide⟩
set_option maxRecDepth 100000 in
theorem okm_212 : okMp (yX12_count, cX12_count, 2, (some .int), 1, 12, 1477, 97) := ⟨rfl, by decide, rfl, rfl, by decide +kernel, by decide, by decide⟩
set_option maxRecDepth 100000 in
theorem okm_213 : okMp (yX12_sheet, cX12_sheet, 5, (some .int), 3, 12, 1481, 97) := ⟨rfl, by decide, rfl, rfl, by decide +kernel, by decide, by decide⟩
set_option maxRecDepth 100000 in
theorem okm_214 : okMp (yX12_cell, cX12_cell, 4, (some .int), 3, 12, 1485, 97) := ⟨rfl, by decide, rfl, rfl, by decide +kernel, by decide, by decide⟩
set_option maxRecDepth 100000 in
theorem okm_215 : okMp (yX12_copy, cX12_copy, 10, (some .int), 5, 12, 1489, 97) := ⟨rfl, by decide, rfl, rfl, by decide +kernel, by decide, by decide⟩
set_option maxRecDepth 100000 in
theorem okm_216 : okMp (yX12_lays, cX12_lays, 10, (some .int), 4, 12, 1493, 97) := ⟨rfl, by decide, rfl, rfl, by decide +kernel, by decide, by decide⟩
set_option maxRecDepth 100000 in
theorem okm_217 : okMp (yX12_isUnder, cX12_isUnder, 2, (some .boolean), 2, 12, 1501, 97) := ⟨rfl, by decide, rfl, rfl, by decide +kernel, by decide, by decide⟩
set_option maxRecDepth 100000 in
theorem okm_218 : okMp (yX12_taken, cX12_taken, 4, (some .int), 3, 12, 1498, 97) := ⟨rfl, by decide, rfl, rfl, by decide +kernel, by decide, by decide⟩
set_option maxRecDepth 100000 in
theorem okm_219 : okMp (yJ6_bitCount_0f7a4, cJ6_bitCount_0f7a4, 1, (some .int), 1, 14, 839, 99) := ⟨rfl, by decide, rfl, rfl, by decide +kernel, by decide, by decide⟩
set_option maxRecDepth 100000 in
theorem okc_0 : okCp (53257, 94, 4, 102, 103, 0) := ⟨_, _, rfl, rfl, by decide, rfl, rfl, rfl, rfl⟩
set_option maxRecDepth 100000 in
theorem okc_1 : okCp (45057, 0, 6, 105, 106, 107) := ⟨_, _, rfl, rfl, by decide, rfl, rfl, rfl⟩
set_option maxRecDepth 100000 in
theorem okc_2 : okCp (45065, 55, 5, 110, 111, 0) := ⟨_, _, rfl, rfl, by decide, rfl, rfl, rfl, rfl⟩
set_option maxRecDepth 100000 in
theorem okc_3 : okCp (28675, 0, 6, 113, 106, 107) := ⟨_, _, rfl, rfl, by decide, rfl, rfl, rfl⟩
set_option maxRecDepth 100000 in
theorem okc_4 : okCp (45074, 42, 5, 134, 135, 0) := ⟨_, _, rfl, rfl, by decide, rfl, rfl, rfl, rfl⟩
set_option maxRecDepth 100000 in
theorem okc_5 : okCp (24579, 0, 6, 137, 106, 107) := ⟨_, _, rfl, rfl, by decide, rfl, rfl, rfl⟩
set_option maxRecDepth 100000 in
theorem okc_6 : okCp (45082, 43, 0, 206, 207, 208) := ⟨_, _, rfl, rfl, by decide, rfl, rfl, rfl⟩
set_option maxRecDepth 100000 in
theorem okc_7 : okCp (45087, 81, 5, 212, 213, 0) := ⟨_, _, rfl, rfl, by decide, rfl, rfl, rfl, rfl⟩
set_option maxRecDepth 100000 in
theorem okc_8 : okCp (40963, 0, 6, 215, 106, 107) := ⟨_, _, rfl, rfl, by decide, rfl, rfl, rfl⟩
set_option maxRecDepth 100000 in
theorem okc_9 : okCp (40971, 25, 5, 218, 219, 0) := ⟨_, _, rfl, rfl, by decide, rfl, rfl, rfl, rfl⟩
set_option maxRecDepth 100000 in
theorem okc_10 : okCp (12291, 0, 6, 221, 106, 107) := ⟨_, _, rfl, rfl, by decide, rfl, rfl, rfl⟩
set_option maxRecDepth 100000 in
theorem okc_11 : okCp (45094, 31, 5, 293, 294, 0) := ⟨_, _, rfl, rfl, by decide, rfl, rfl, rfl, rfl⟩
set_option maxRecDepth 100000 in
theorem okc_12 : okCp (16387, 0, 6, 296, 106, 107) := ⟨_, _, rfl, rfl, by decide, rfl, rfl, rfl⟩
set_option maxRecDepth 100000 in
theorem okc_13 : okCp (45101, 13, 5, 316, 317, 0) := ⟨_, _, rfl, rfl, by decide, rfl, rfl, rfl, rfl⟩
set_option maxRecDepth 100000 in
theorem okc_14 : okCp (4099, 0, 6, 319, 106, 107) := ⟨_, _, rfl, rfl, by decide, rfl, rfl, rfl⟩
set_option maxRecDepth 100000 in
theorem okc_15 : okCp (45112, 71, 5, 343, 344, 0) := ⟨_, _, rfl, rfl, by decide, rfl, rfl, rfl, rfl⟩
set_option maxRecDepth 100000 in
theorem okc_16 : okCp (32771, 0, 6, 346, 106, 107) := ⟨_, _, rfl, rfl, by decide, rfl, rfl, rfl⟩
set_option maxRecDepth 100000 in
theorem okc_17 : okCp (45119, 37, 5, 360, 361, 0) := ⟨_, _, rfl, rfl, by decide, rfl, rfl, rfl, rfl⟩
set_option maxRecDepth 100000 in
theorem okc_18 : okCp (20483, 0, 6, 363, 106, 107) := ⟨_, _, rfl, rfl, by decide, rfl, rfl, rfl⟩
set_option maxRecDepth 100000 in
theorem okc_19 : okCp (45126, 0, 5, 376, 377, 0) := ⟨_, _, rfl, rfl, by decide, rfl, rfl, rfl, rfl⟩
set_option maxRecDepth 100000 in
theorem okc_20 : okCp (3, 0, 6, 379, 106, 107) := ⟨_, _, rfl, rfl, by decide, rfl, rfl, rfl⟩
set_option maxRecDepth 100000 in
theorem okc_21 : okCp (45140, 77, 5, 404, 405, 0) := ⟨_, _, rfl, rfl, by decide, rfl, rfl, rfl, rfl⟩
set_option maxRecDepth 100000 in
theorem okc_22 : okCp (36867, 0, 6, 407, 106, 107) := ⟨_, _, rfl, rfl, by decide, rfl, rfl, rfl⟩
set_option maxRecDepth 100000 in
theorem okc_23 : okCp (45141, 133, 0, 427, 429, 0) := ⟨_, _, rfl, rfl, by decide, rfl, rfl, rfl⟩
set_option maxRecDepth 100000 in
theorem okc_24 : okCp (45333, 1, 0, 431, 432, 433) := ⟨_, _, rfl, rfl, by decide, rfl, rfl, rfl⟩
set_option maxRecDepth 100000 in
theorem okc_25 : okCp (45168, 134, 0, 435, 437, 1) := ⟨_, _, rfl, rfl, by decide, rfl, rfl, rfl⟩
set_option maxRecDepth 100000 in
theorem okc_26 : okCp (45388, 82, 0, 439, 440, 441) := ⟨_, _, rfl, rfl, by decide, rfl, rfl, rfl⟩
set_option maxRecDepth 100000 in
theorem okc_27 : okCp (40998, 26, 0, 443, 444, 445) := ⟨_, _, rfl, rfl, by decide, rfl, rfl, rfl⟩
set_option maxRecDepth 100000 in
theorem okc_28 : okCp (12314, 51, 0, 447, 448, 449) := ⟨_, _, rfl, rfl, by decide, rfl, rfl, rfl⟩
set_option maxRecDepth 100000 in
theorem okc_29 : okCp (12336, 24, 2, 451, 452, 0) := ⟨_, _, rfl, rfl, by decide, rfl, rfl⟩
set_option maxRecDepth 100000 in
theorem okc_30 : okCp (8213, 0, 8, 454, 455, 456) := ⟨_, _, rfl, rfl, by decide, rfl, rfl, rfl⟩
set_option maxRecDepth 100000 in
theorem okc_31 : okCp (12341, 22, 2, 457, 458, 0) := ⟨_, _, rfl, rfl, by decide, rfl, rfl⟩
set_option maxRecDepth 100000 in
theorem okc_32 : okCp (8209, 21, 2, 460, 461, 0) := ⟨_, _, rfl, rfl, by decide, rfl, rfl⟩
set_option maxRecDepth 100000 in
theorem okc_33 : okCp (8201, 20, 2, 463, 464, 0) := ⟨_, _, rfl, rfl, by decide, rfl, rfl⟩
set_option maxRecDepth 100000 in
theorem okc_34 : okCp (41006, 85, 0, 468, 470, 2) := ⟨_, _, rfl, rfl, by decide, rfl, rfl, rfl⟩
set_option maxRecDepth 100000 in
theorem okc_35 : okCp (41041, 86, 0, 472, 474, 3) := ⟨_, _, rfl, rfl, by decide, rfl, rfl, rfl⟩
set_option maxRecDepth 100000 in
theorem okc_36 : okCp (41034, 54, 0, 476, 477, 478) := ⟨_, _, rfl, rfl, by decide, rfl, rfl, rfl⟩
set_option maxRecDepth 100000 in
theorem okc_37 : okCp (41013, 87, 0, 480, 482, 4) := ⟨_, _, rfl, rfl, by decide, rfl, rfl, rfl⟩
set_option maxRecDepth 100000 in
theorem okc_38 : okCp (41016, 88, 0, 484, 486, 5) := ⟨_, _, rfl, rfl, by decide, rfl, rfl, rfl⟩
set_option maxRecDepth 100000 in
theorem okc_39 : okCp (41058, 27, 0, 488, 489, 490) := ⟨_, _, rfl, rfl, by decide, rfl, rfl, rfl⟩
set_option maxRecDepth 100000 in
theorem okc_40 : okCp (12350, 28, 0, 492, 494, 6) := ⟨_, _, rfl, rfl, by decide, rfl, rfl, rfl⟩
set_option maxRecDepth 100000 in
theorem okc_41 : okCp (41062, 29, 0, 496, 497, 498) := ⟨_, _, rfl, rfl, by decide, rfl, rfl, rfl⟩
set_option maxRecDepth 100000 in
theorem okc_42 : okCp (41065, 30, 0, 500, 501, 502) := ⟨_, _, rfl, rfl, by decide, rfl, rfl, rfl⟩
set_option maxRecDepth 100000 in
theorem okc_43 : okCp (12357, 27, 0, 504, 489, 490) := ⟨_, _, rfl, rfl, by decide, rfl, rfl, rfl⟩
set_option maxRecDepth 100000 in
theorem okc_44 : okCp (12361, 0, 9, 505, 506, 507) := ⟨_, _, rfl, rfl, by decide, rfl, rfl, rfl⟩
set_option maxRecDepth 100000 in
theorem okc_45 : okCp (53263, 95, 0, 551, 552, 553) := ⟨_, _, rfl, rfl, by decide, rfl, rfl, rfl⟩
set_option maxRecDepth 100000 in
theorem okc_46 : okCp (45148, 56, 0, 555, 556, 557) := ⟨_, _, rfl, rfl, by decide, rfl, rfl, rfl⟩
set_option maxRecDepth 100000 in
theorem okc_47 : okCp (53268, 96, 0, 559, 560, 561) := ⟨_, _, rfl, rfl, by decide, rfl, rfl, rfl⟩
set_option maxRecDepth 100000 in
theorem okc_48 : okCp (45152, 57, 0, 563, 564, 565) := ⟨_, _, rfl, rfl, by decide, rfl, rfl, rfl⟩
set_option maxRecDepth 100000 in
theorem okc_49 : okCp (28695, 43, 0, 567, 207, 208) := ⟨_, _, rfl, rfl, by decide, rfl, rfl, rfl⟩
set_option maxRecDepth 100000 in
theorem okc_50 : okCp (28700, 70, 0, 568, 570, 7) := ⟨_, _, rfl, rfl, by decide, rfl, rfl, rfl⟩
set_option maxRecDepth 100000 in
theorem okc_51 : okCp (28707, 58, 0, 572, 574, 8) := ⟨_, _, rfl, rfl, by decide, rfl, rfl, rfl⟩
set_option maxRecDepth 100000 in
theorem okc_52 : okCp (28711, 69, 0, 576, 578, 9) := ⟨_, _, rfl, rfl, by decide, rfl, rfl, rfl⟩
set_option maxRecDepth 100000 in
theorem okc_53 : okCp (28715, 68, 0, 580, 582, 10) := ⟨_, _, rfl, rfl, by decide, rfl, rfl, rfl⟩
set_option maxRecDepth 100000 in
theorem okc_54 : okCp (28718, 20, 2, 584, 464, 0) := ⟨_, _, rfl, rfl, by decide, rfl, rfl⟩
set_option maxRecDepth 100000 in
theorem okc_55 : okCp (28724, 62, 0, 585, 587, 11) := ⟨_, _, rfl, rfl, by decide, rfl, rfl, rfl⟩
set_option maxRecDepth 100000 in
theorem okc_56 : okCp (28759, 47, 0, 589, 590, 591) := ⟨_, _, rfl, rfl, by decide, rfl, rfl, rfl⟩
set_option maxRecDepth 100000 in
theorem okc_57 : okCp (28763, 63, 0, 593, 595, 12) := ⟨_, _, rfl, rfl, by decide, rfl, rfl, rfl⟩
set_option maxRecDepth 100000 in
theorem okc_58 : okCp (28731, 44, 0, 597, 598, 599) := ⟨_, _, rfl, rfl, by decide, rfl, rfl, rfl⟩
set_option maxRecDepth 100000 in
theorem okc_59 : okCp (28772, 50, 0, 601, 602, 603) := ⟨_, _, rfl, rfl, by decide, rfl, rfl, rfl⟩
set_option maxRecDepth 100000 in
theorem okc_60 : okCp (28776, 48, 0, 605, 606, 607) := ⟨_, _, rfl, rfl, by decide, rfl, rfl, rfl⟩
set_option maxRecDepth 100000 in
theorem okc_61 : okCp (28740, 67, 0, 609, 611, 13) := ⟨_, _, rfl, rfl, by decide, rfl, rfl, rfl⟩
set_option maxRecDepth 100000 in
theorem okc_62 : okCp (28766, 64, 0, 613, 615, 14) := ⟨_, _, rfl, rfl, by decide, rfl, rfl, rfl⟩
set_option maxRecDepth 100000 in
theorem okc_63 : okCp (28783, 49, 0, 617, 618, 619) := ⟨_, _, rfl, rfl, by decide, rfl, rfl, rfl⟩
set_option maxRecDepth 100000 in
theorem okc_64 : okCp (28769, 65, 0, 621, 623, 15) := ⟨_, _, rfl, rfl, by decide, rfl, rfl, rfl⟩
set_option maxRecDepth 100000 in
theorem okc_65 : okCp (28746, 66, 0, 625, 627, 16) := ⟨_, _, rfl, rfl, by decide, rfl, rfl, rfl⟩
set_option maxRecDepth 100000 in
theorem okc_66 : okCp (28734, 59, 0, 629, 631, 17) := ⟨_, _, rfl, rfl, by decide, rfl, rfl, rfl⟩
set_option maxRecDepth 100000 in
theorem okc_67 : okCp (28737, 60, 0, 633, 635, 18) := ⟨_, _, rfl, rfl, by decide, rfl, rfl, rfl⟩
set_option maxRecDepth 100000 in
theorem okc_68 : okCp (28743, 61, 0, 637, 639, 19) := ⟨_, _, rfl, rfl, by decide, rfl, rfl, rfl⟩
set_option maxRecDepth 100000 in
theorem okc_69 : okCp (28752, 46, 0, 641, 642, 643) := ⟨_, _, rfl, rfl, by decide, rfl, rfl, rfl⟩
set_option maxRecDepth 100000 in
theorem okc_70 : okCp (53273, 97, 0, 645, 646, 647) := ⟨_, _, rfl, rfl, by decide, rfl, rfl, rfl⟩
set_option maxRecDepth 100000 in
theorem okc_71 : okCp (53278, 98, 0, 649, 650, 651) := ⟨_, _, rfl, rfl, by decide, rfl, rfl, rfl⟩
set_option maxRecDepth 100000 in
theorem okc_72 : okCp (45171, 129, 2, 653, 654, 0) := ⟨_, _, rfl, rfl, by decide, rfl, rfl⟩
set_option maxRecDepth 100000 in
theorem okc_73 : okCp (45181, 83, 0, 656, 657, 658) := ⟨_, _, rfl, rfl, by decide, rfl, rfl, rfl⟩
set_option maxRecDepth 100000 in
theorem okc_74 : okCp (41028, 45, 0, 660, 661, 662) := ⟨_, _, rfl, rfl, by decide, rfl, rfl, rfl⟩
set_option maxRecDepth 100000 in
theorem okc_75 : okCp (45185, 84, 0, 664, 665, 666) := ⟨_, _, rfl, rfl, by decide, rfl, rfl, rfl⟩
set_option maxRecDepth 100000 in
theorem okc_76 : okCp (53283, 99, 0, 668, 669, 670) := ⟨_, _, rfl, rfl, by decide, rfl, rfl, rfl⟩
set_option maxRecDepth 100000 in
theorem okc_77 : okCp (45189, 135, 0, 672, 674, 20) := ⟨_, _, rfl, rfl, by decide, rfl, rfl, rfl⟩
set_option maxRecDepth 100000 in
theorem okc_78 : okCp (53287, 100, 0, 676, 677, 678) := ⟨_, _, rfl, rfl, by decide, rfl, rfl, rfl⟩
set_option maxRecDepth 100000 in
theorem okc_79 : okCp (53291, 101, 0, 680, 681, 682) := ⟨_, _, rfl, rfl, by decide, rfl, rfl, rfl⟩
set_option maxRecDepth 100000 in
theorem okc_80 : okCp (53295, 102, 0, 684, 685, 686) := ⟨_, _, rfl, rfl, by decide, rfl, rfl, rfl⟩
set_option maxRecDepth 100000 in
theorem okc_81 : okCp (45206, 53, 0, 688, 689, 690) := ⟨_, _, rfl, rfl, by decide, rfl, rfl, rfl⟩
set_option maxRecDepth 100000 in
theorem okc_82 : okCp (24632, 52, 0, 692, 693, 694) := ⟨_, _, rfl, rfl, by decide, rfl, rfl, rfl⟩
set_option maxRecDepth 100000 in
theorem okc_83 : okCp (24626, 23, 2, 696, 697, 0) := ⟨_, _, rfl, rfl, by decide, rfl, rfl⟩
set_option maxRecDepth 100000 in
theorem okc_84 : okCp (45210, 89, 0, 699, 700, 701) := ⟨_, _, rfl, rfl, by decide, rfl, rfl, rfl⟩
set_option maxRecDepth 100000 in
theorem okc_85 : okCp (53299, 103, 0, 703, 704, 705) := ⟨_, _, rfl, rfl, by decide, rfl, rfl, rfl⟩
set_option maxRecDepth 100000 in
theorem okc_86 : okCp (45213, 44, 0, 707, 598, 599) := ⟨_, _, rfl, rfl, by decide, rfl, rfl, rfl⟩
set_option maxRecDepth 100000 in
theorem okc_87 : okCp (53303, 104, 0, 708, 709, 710) := ⟨_, _, rfl, rfl, by decide, rfl, rfl, rfl⟩
set_option maxRecDepth 100000 in
theorem okc_88 : okCp (45237, 45, 0, 712, 661, 662) := ⟨_, _, rfl, rfl, by decide, rfl, rfl, rfl⟩
set_option maxRecDepth 100000 in
theorem okc_89 : okCp (45246, 52, 0, 713, 693, 694) := ⟨_, _, rfl, rfl, by decide, rfl, rfl, rfl⟩
set_option maxRecDepth 100000 in
theorem okc_90 : okCp (53307, 105, 0, 714, 715, 716) := ⟨_, _, rfl, rfl, by decide, rfl, rfl, rfl⟩
set_option maxRecDepth 100000 in
theorem okc_91 : okCp (45261, 32, 0, 718, 719, 720) := ⟨_, _, rfl, rfl, by decide, rfl, rfl, rfl⟩
set_option maxRecDepth 100000 in
theorem okc_92 : okCp (16421, 33, 0, 722, 724, 21) := ⟨_, _, rfl, rfl, by decide, rfl, rfl, rfl⟩
set_option maxRecDepth 100000 in
theorem okc_93 : okCp (16430, 29, 0, 727, 497, 498) := ⟨_, _, rfl, rfl, by decide, rfl, rfl, rfl⟩
set_option maxRecDepth 100000 in
theorem okc_94 : okCp (16434, 54, 0, 728, 477, 478) := ⟨_, _, rfl, rfl, by decide, rfl, rfl, rfl⟩
set_option maxRecDepth 100000 in
theorem okc_95 : okCp (16438, 34, 0, 729, 731, 22) := ⟨_, _, rfl, rfl, by decide, rfl, rfl, rfl⟩
set_option maxRecDepth 100000 in
theorem okc_96 : okCp (16448, 30, 0, 733, 501, 502) := ⟨_, _, rfl, rfl, by decide, rfl, rfl, rfl⟩
set_option maxRecDepth 100000 in
theorem okc_97 : okCp (16452, 0, 8, 734, 455, 456) := ⟨_, _, rfl, rfl, by decide, rfl, rfl, rfl⟩
set_option maxRecDepth 100000 in
theorem okc_98 : okCp (16442, 0, 9, 735, 506, 507) := ⟨_, _, rfl, rfl, by decide, rfl, rfl, rfl⟩
set_option maxRecDepth 100000 in
theorem okc_99 : okCp (16426, 35, 0, 736, 738, 23) := ⟨_, _, rfl, rfl, by decide, rfl, rfl, rfl⟩
set_option maxRecDepth 100000 in
theorem okc_100 : okCp (16455, 36, 0, 740, 742, 24) := ⟨_, _, rfl, rfl, by decide, rfl, rfl, rfl⟩
set_option maxRecDepth 100000 in
theorem okc_101 : okCp (53311, 106, 0, 744, 745, 746) := ⟨_, _, rfl, rfl, by decide, rfl, rfl, rfl⟩
set_option maxRecDepth 100000 in
theorem okc_102 : okCp (45272, 136, 0, 748, 750, 25) := ⟨_, _, rfl, rfl, by decide, rfl, rfl, rfl⟩
set_option maxRecDepth 100000 in
theorem okc_103 : okCp (45275, 14, 0, 752, 753, 754) := ⟨_, _, rfl, rfl, by decide, rfl, rfl, rfl⟩
set_option maxRecDepth 100000 in
theorem okc_104 : okCp (4135, 15, 0, 757, 759, 26) := ⟨_, _, rfl, rfl, by decide, rfl, rfl, rfl⟩
set_option maxRecDepth 100000 in
theorem okc_105 : okCp (4139, 0, 7, 761, 763, 762) := ⟨_, _, rfl, rfl, by decide, rfl, rfl, rfl⟩
set_option maxRecDepth 100000 in
theorem okc_106 : okCp (4145, 16, 0, 764, 766, 27) := ⟨_, _, rfl, rfl, by decide, rfl, rfl, rfl⟩
set_option maxRecDepth 100000 in
theorem okc_107 : okCp (4149, 18, 0, 768, 770, 28) := ⟨_, _, rfl, rfl, by decide, rfl, rfl, rfl⟩
set_option maxRecDepth 100000 in
theorem okc_108 : okCp (4175, 19, 0, 772, 774, 29) := ⟨_, _, rfl, rfl, by decide, rfl, rfl, rfl⟩
set_option maxRecDepth 100000 in
theorem okc_109 : okCp (4179, 91, 0, 776, 777, 778) := ⟨_, _, rfl, rfl, by decide, rfl, rfl, rfl⟩
set_option maxRecDepth 100000 in
theorem okc_110 : okCp (4183, 132, 3, 780, 781, 0) := ⟨_, _, rfl, rfl, by decide, rfl, rfl⟩
set_option maxRecDepth 100000 in
theorem okc_111 : okCp (4153, 17, 0, 783, 785, 30) := ⟨_, _, rfl, rfl, by decide, rfl, rfl, rfl⟩
set_option maxRecDepth 100000 in
theorem okc_112 : okCp (4157, 0, 8, 787, 455, 456) := ⟨_, _, rfl, rfl, by decide, rfl, rfl, rfl⟩
set_option maxRecDepth 100000 in
theorem okc_113 : okCp (53315, 107, 0, 788, 789, 790) := ⟨_, _, rfl, rfl, by decide, rfl, rfl, rfl⟩
set_option maxRecDepth 100000 in
theorem okc_114 : okCp (53319, 108, 0, 792, 793, 794) := ⟨_, _, rfl, rfl, by decide, rfl, rfl, rfl⟩
set_option maxRecDepth 100000 in
theorem okc_115 : okCp (45284, 131, 2, 796, 797, 0) := ⟨_, _, rfl, rfl, by decide, rfl, rfl⟩
set_option maxRecDepth 100000 in
theorem okc_116 : okCp (53323, 109, 0, 800, 801, 802) := ⟨_, _, rfl, rfl, by decide, rfl, rfl, rfl⟩
set_option maxRecDepth 100000 in
theorem okc_117 : okCp (45287, 137, 0, 804, 806, 31) := ⟨_, _, rfl, rfl, by decide, rfl, rfl, rfl⟩
set_option maxRecDepth 100000 in
theorem okc_118 : okCp (45394, 132, 2, 808, 781, 0) := ⟨_, _, rfl, rfl, by decide, rfl, rfl⟩
set_option maxRecDepth 100000 in
theorem okc_119 : okCp (45291, 92, 0, 809, 810, 811) := ⟨_, _, rfl, rfl, by decide, rfl, rfl, rfl⟩
set_option maxRecDepth 100000 in
theorem okc_120 : okCp (41069, 91, 0, 813, 777, 778) := ⟨_, _, rfl, rfl, by decide, rfl, rfl, rfl⟩
set_option maxRecDepth 100000 in
theorem okc_121 : okCp (41072, 0, 8, 814, 455, 456) := ⟨_, _, rfl, rfl, by decide, rfl, rfl, rfl⟩
set_option maxRecDepth 100000 in
theorem okc_122 : okCp (41077, 0, 9, 815, 506, 507) := ⟨_, _, rfl, rfl, by decide, rfl, rfl, rfl⟩
set_option maxRecDepth 100000 in
theorem okc_123 : okCp (53327, 110, 0, 816, 817, 818) := ⟨_, _, rfl, rfl, by decide, rfl, rfl, rfl⟩
set_option maxRecDepth 100000 in
theorem okc_124 : okCp (45295, 72, 0, 820, 821, 822) := ⟨_, _, rfl, rfl, by decide, rfl, rfl, rfl⟩
set_option maxRecDepth 100000 in
theorem okc_125 : okCp (32793, 73, 0, 824, 826, 32) := ⟨_, _, rfl, rfl, by decide, rfl, rfl, rfl⟩
set_option maxRecDepth 100000 in
theorem okc_126 : okCp (32797, 74, 0, 828, 830, 33) := ⟨_, _, rfl, rfl, by decide, rfl, rfl, rfl⟩
set_option maxRecDepth 100000 in
theorem okc_127 : okCp (32812, 93, 0, 832, 833, 834) := ⟨_, _, rfl, rfl, by decide, rfl, rfl, rfl⟩
set_option maxRecDepth 100000 in
theorem okc_128 : okCp (41080, 50, 0, 836, 602, 603) := ⟨_, _, rfl, rfl, by decide, rfl, rfl, rfl⟩
set_option maxRecDepth 100000 in
theorem okc_129 : okCp (32817, 219, 2, 837, 838, 0) := ⟨_, _, rfl, rfl, by decide, rfl, rfl⟩
set_option maxRecDepth 100000 in
theorem okc_130 : okCp (32801, 75, 0, 843, 845, 34) := ⟨_, _, rfl, rfl, by decide, rfl, rfl, rfl⟩
set_option maxRecDepth 100000 in
theorem okc_131 : okCp (32842, 76, 0, 847, 849, 35) := ⟨_, _, rfl, rfl, by decide, rfl, rfl, rfl⟩
set_option maxRecDepth 100000 in
theorem okc_132 : okCp (53332, 111, 0, 851, 852, 853) := ⟨_, _, rfl, rfl, by decide, rfl, rfl, rfl⟩
set_option maxRecDepth 100000 in
theorem okc_133 : okCp (53336, 112, 0, 855, 856, 857) := ⟨_, _, rfl, rfl, by decide, rfl, rfl, rfl⟩
set_option maxRecDepth 100000 in
theorem okc_134 : okCp (45300, 38, 0, 859, 860, 861) := ⟨_, _, rfl, rfl, by decide, rfl, rfl, rfl⟩
set_option maxRecDepth 100000 in
theorem okc_135 : okCp (20517, 52, 0, 863, 693, 694) := ⟨_, _, rfl, rfl, by decide, rfl, rfl, rfl⟩
set_option maxRecDepth 100000 in
theorem okc_136 : okCp (20521, 0, 9, 864, 506, 507) := ⟨_, _, rfl, rfl, by decide, rfl, rfl, rfl⟩
set_option maxRecDepth 100000 in
theorem okc_137 : okCp (45304, 39, 0, 865, 866, 867) := ⟨_, _, rfl, rfl, by decide, rfl, rfl, rfl⟩
set_option maxRecDepth 100000 in
theorem okc_138 : okCp (20530, 40, 0, 869, 871, 36) := ⟨_, _, rfl, rfl, by decide, rfl, rfl, rfl⟩
set_option maxRecDepth 100000 in
theorem okc_139 : okCp (20533, 0, 8, 873, 455, 456) := ⟨_, _, rfl, rfl, by decide, rfl, rfl, rfl⟩
set_option maxRecDepth 100000 in
theorem okc_140 : okCp (53340, 113, 0, 874, 875, 876) := ⟨_, _, rfl, rfl, by decide, rfl, rfl, rfl⟩
set_option maxRecDepth 100000 in
theorem okc_141 : okCp (45307, 41, 0, 878, 879, 880) := ⟨_, _, rfl, rfl, by decide, rfl, rfl, rfl⟩
set_option maxRecDepth 100000 in
theorem okc_142 : okCp (20536, 39, 0, 882, 866, 867) := ⟨_, _, rfl, rfl, by decide, rfl, rfl, rfl⟩
set_option maxRecDepth 100000 in
theorem okc_143 : okCp (53344, 114, 0, 883, 884, 885) := ⟨_, _, rfl, rfl, by decide, rfl, rfl, rfl⟩
set_option maxRecDepth 100000 in
theorem okc_144 : okCp (53348, 115, 0, 887, 888, 889) := ⟨_, _, rfl, rfl, by decide, rfl, rfl, rfl⟩
set_option maxRecDepth 100000 in
theorem okc_145 : okCp (45313, 3, 0, 891, 892, 893) := ⟨_, _, rfl, rfl, by decide, rfl, rfl, rfl⟩
set_option maxRecDepth 100000 in
theorem okc_146 : okCp (48, 4, 0, 895, 897, 37) := ⟨_, _, rfl, rfl, by decide, rfl, rfl, rfl⟩
set_option maxRecDepth 100000 in
theorem okc_147 : okCp (87, 90, 0, 899, 900, 901) := ⟨_, _, rfl, rfl, by decide, rfl, rfl, rfl⟩
set_option maxRecDepth 100000 in
theorem okc_148 : okCp (91, 6, 0, 903, 905, 38) := ⟨_, _, rfl, rfl, by decide, rfl, rfl, rfl⟩
set_option maxRecDepth 100000 in
theorem okc_149 : okCp (95, 8, 0, 907, 909, 39) := ⟨_, _, rfl, rfl, by decide, rfl, rfl, rfl⟩
set_option maxRecDepth 100000 in
theorem okc_150 : okCp (98, 7, 0, 911, 913, 40) := ⟨_, _, rfl, rfl, by decide, rfl, rfl, rfl⟩
set_option maxRecDepth 100000 in
theorem okc_151 : okCp (64, 5, 0, 915, 917, 41) := ⟨_, _, rfl, rfl, by decide, rfl, rfl, rfl⟩
set_option maxRecDepth 100000 in
theorem okc_152 : okCp (68, 9, 0, 919, 920, 921) := ⟨_, _, rfl, rfl, by decide, rfl, rfl, rfl⟩
set_option maxRecDepth 100000 in
theorem okc_153 : okCp (75, 0, 8, 923, 455, 456) := ⟨_, _, rfl, rfl, by decide, rfl, rfl, rfl⟩
set_option maxRecDepth 100000 in
theorem okc_154 : okCp (53352, 116, 0, 924, 925, 926) := ⟨_, _, rfl, rfl, by decide, rfl, rfl, rfl⟩
set_option maxRecDepth 100000 in
theorem okc_155 : okCp (45316, 10, 0, 928, 929, 930) := ⟨_, _, rfl, rfl, by decide, rfl, rfl, rfl⟩
set_option maxRecDepth 100000 in
theorem okc_156 : okCp (102, 11, 0, 932, 934, 42) := ⟨_, _, rfl, rfl, by decide, rfl, rfl, rfl⟩
set_option maxRecDepth 100000 in
theorem okc_157 : okCp (53356, 117, 0, 936, 937, 938) := ⟨_, _, rfl, rfl, by decide, rfl, rfl, rfl⟩
set_option maxRecDepth 100000 in
theorem okc_158 : okCp (45323, 9, 0, 940, 920, 921) := ⟨_, _, rfl, rfl, by decide, rfl, rfl, rfl⟩
set_option maxRecDepth 100000 in
theorem okc_159 : okCp (53360, 118, 0, 941, 942, 943) := ⟨_, _, rfl, rfl, by decide, rfl, rfl, rfl⟩
set_option maxRecDepth 100000 in
theorem okc_160 : okCp (45329, 12, 0, 945, 946, 947) := ⟨_, _, rfl, rfl, by decide, rfl, rfl, rfl⟩
set_option maxRecDepth 100000 in
theorem okc_161 : okCp (53364, 119, 0, 949, 950, 951) := ⟨_, _, rfl, rfl, by decide, rfl, rfl, rfl⟩
set_option maxRecDepth 100000 in
theorem okc_162 : okCp (53368, 120, 0, 953, 954, 955) := ⟨_, _, rfl, rfl, by decide, rfl, rfl, rfl⟩
set_option maxRecDepth 100000 in
theorem okc_163 : okCp (45336, 2, 0, 957, 958, 959) := ⟨_, _, rfl, rfl, by decide, rfl, rfl, rfl⟩
set_option maxRecDepth 100000 in
theorem okc_164 : okCp (28, 0, 7, 961, 763, 762) := ⟨_, _, rfl, rfl, by decide, rfl, rfl, rfl⟩
set_option maxRecDepth 100000 in
theorem okc_165 : okCp (53372, 121, 0, 962, 963, 964) := ⟨_, _, rfl, rfl, by decide, rfl, rfl, rfl⟩
set_option maxRecDepth 100000 in
theorem okc_166 : okCp (53376, 122, 0, 966, 967, 968) := ⟨_, _, rfl, rfl, by decide, rfl, rfl, rfl⟩
set_option maxRecDepth 100000 in
theorem okc_167 : okCp (45343, 20, 2, 970, 464, 0) := ⟨_, _, rfl, rfl, by decide, rfl, rfl⟩
set_option maxRecDepth 100000 in
theorem okc_168 : okCp (45348, 23, 2, 971, 697, 0) := ⟨_, _, rfl, rfl, by decide, rfl, rfl⟩
set_option maxRecDepth 100000 in
theorem okc_169 : okCp (45352, 24, 2, 972, 452, 0) := ⟨_, _, rfl, rfl, by decide, rfl, rfl⟩
set_option maxRecDepth 100000 in
theorem okc_170 : okCp (45355, 22, 2, 973, 458, 0) := ⟨_, _, rfl, rfl, by decide, rfl, rfl⟩
set_option maxRecDepth 100000 in
theorem okc_171 : okCp (53381, 123, 0, 974, 975, 976) := ⟨_, _, rfl, rfl, by decide, rfl, rfl, rfl⟩
set_option maxRecDepth 100000 in
theorem okc_172 : okCp (53385, 124, 0, 978, 979, 980) := ⟨_, _, rfl, rfl, by decide, rfl, rfl, rfl⟩
set_option maxRecDepth 100000 in
theorem okc_173 : okCp (45360, 130, 2, 982, 983, 0) := ⟨_, _, rfl, rfl, by decide, rfl, rfl⟩
set_option maxRecDepth 100000 in
theorem okc_174 : okCp (45363, 78, 0, 985, 986, 987) := ⟨_, _, rfl, rfl, by decide, rfl, rfl, rfl⟩
set_option maxRecDepth 100000 in
theorem okc_175 : okCp (53389, 125, 0, 989, 990, 991) := ⟨_, _, rfl, rfl, by decide, rfl, rfl, rfl⟩
set_option maxRecDepth 100000 in
theorem okc_176 : okCp (45367, 80, 0, 993, 994, 995) := ⟨_, _, rfl, rfl, by decide, rfl, rfl, rfl⟩
set_option maxRecDepth 100000 in
theorem okc_177 : okCp (45370, 79, 0, 997, 998, 999) := ⟨_, _, rfl, rfl, by decide, rfl, rfl, rfl⟩
set_option maxRecDepth 100000 in
theorem okc_178 : okCp (53393, 126, 0, 1001, 1002, 1003) := ⟨_, _, rfl, rfl, by decide, rfl, rfl, rfl⟩
set_option maxRecDepth 100000 in
theorem okc_179 : okCp (45376, 0, 7, 1005, 763, 762) := ⟨_, _, rfl, rfl, by decide, rfl, rfl, rfl⟩
set_option maxRecDepth 100000 in
theorem okc_180 : okCp (53398, 127, 0, 1006, 1007, 1008) := ⟨_, _, rfl, rfl, by decide, rfl, rfl, rfl⟩
set_option maxRecDepth 100000 in
theorem okc_181 : okCp (53402, 128, 0, 1010, 1011, 1012) := ⟨_, _, rfl, rfl, by decide, rfl, rfl, rfl⟩
set_option maxRecDepth 100000 in
theorem okc_182 : okCp (45385, 21, 2, 1014, 461, 0) := ⟨_, _, rfl, rfl, by decide, rfl, rfl⟩
set_option maxRecDepth 100000 in
theorem okc_183 : okCp (53260, 138, 4, 1017, 1018, 0) := ⟨_, _, rfl, rfl, by decide, rfl, rfl, rfl, rfl⟩
set_option maxRecDepth 100000 in
theorem okc_184 : okCp (49153, 0, 6, 1020, 106, 107) := ⟨_, _, rfl, rfl, by decide, rfl, rfl, rfl⟩
set_option maxRecDepth 100000 in
theorem okc_185 : okCp (53267, 140, 0, 1184, 1185, 1186) := ⟨_, _, rfl, rfl, by decide, rfl, rfl, rfl⟩
set_option maxRecDepth 100000 in
theorem okc_186 : okCp (49277, 139, 2, 1188, 1189, 0) := ⟨_, _, rfl, rfl, by decide, rfl, rfl⟩
set_option maxRecDepth 100000 in
theorem okc_187 : okCp (53272, 151, 0, 1192, 1193, 1194) := ⟨_, _, rfl, rfl, by decide, rfl, rfl, rfl⟩
set_option maxRecDepth 100000 in
theorem okc_188 : okCp (49320, 149, 0, 1196, 1198, 43) := ⟨_, _, rfl, rfl, by decide, rfl, rfl, rfl⟩
set_option maxRecDepth 100000 in
theorem okc_189 : okCp (49323, 148, 0, 1200, 1202, 44) := ⟨_, _, rfl, rfl, by decide, rfl, rfl, rfl⟩
set_option maxRecDepth 100000 in
theorem okc_190 : okCp (49290, 141, 0, 1204, 1206, 45) := ⟨_, _, rfl, rfl, by decide, rfl, rfl, rfl⟩
set_option maxRecDepth 100000 in
theorem okc_191 : okCp (49310, 147, 0, 1208, 1210, 46) := ⟨_, _, rfl, rfl, by decide, rfl, rfl, rfl⟩
set_option maxRecDepth 100000 in
theorem okc_192 : okCp (49304, 146, 0, 1212, 1214, 47) := ⟨_, _, rfl, rfl, by decide, rfl, rfl, rfl⟩
set_option maxRecDepth 100000 in
theorem okc_193 : okCp (49297, 143, 0, 1216, 1218, 48) := ⟨_, _, rfl, rfl, by decide, rfl, rfl, rfl⟩
set_option maxRecDepth 100000 in
theorem okc_194 : okCp (49307, 145, 0, 1220, 1222, 49) := ⟨_, _, rfl, rfl, by decide, rfl, rfl, rfl⟩
set_option maxRecDepth 100000 in
theorem okc_195 : okCp (49294, 142, 0, 1224, 1226, 50) := ⟨_, _, rfl, rfl, by decide, rfl, rfl, rfl⟩
set_option maxRecDepth 100000 in
theorem okc_196 : okCp (49314, 144, 0, 1228, 1230, 51) := ⟨_, _, rfl, rfl, by decide, rfl, rfl, rfl⟩
set_option maxRecDepth 100000 in
theorem okc_197 : okCp (49326, 150, 0, 1232, 1234, 52) := ⟨_, _, rfl, rfl, by decide, rfl, rfl, rfl⟩
set_option maxRecDepth 100000 in
theorem okc_198 : okCp (49339, 209, 0, 1236, 1237, 1238) := ⟨_, _, rfl, rfl, by decide, rfl, rfl, rfl⟩
set_option maxRecDepth 100000 in
theorem okc_199 : okCp (53277, 152, 0, 1240, 1241, 1242) := ⟨_, _, rfl, rfl, by decide, rfl, rfl, rfl⟩
set_option maxRecDepth 100000 in
theorem okc_200 : okCp (53380, 158, 0, 1244, 1245, 1246) := ⟨_, _, rfl, rfl, by decide, rfl, rfl, rfl⟩
set_option maxRecDepth 100000 in
theorem okc_201 : okCp (49345, 155, 2, 1248, 1249, 0) := ⟨_, _, rfl, rfl, by decide, rfl, rfl⟩
set_option maxRecDepth 100000 in
theorem okc_202 : okCp (49349, 156, 2, 1251, 1252, 0) := ⟨_, _, rfl, rfl, by decide, rfl, rfl⟩
set_option maxRecDepth 100000 in
theorem okc_203 : okCp (49353, 157, 2, 1254, 1255, 0) := ⟨_, _, rfl, rfl, by decide, rfl, rfl⟩
set_option maxRecDepth 100000 in
theorem okc_204 : okCp (53282, 166, 0, 1257, 1258, 1259) := ⟨_, _, rfl, rfl, by decide, rfl, rfl, rfl⟩
set_option maxRecDepth 100000 in
theorem okc_205 : okCp (49363, 162, 0, 1261, 1263, 53) := ⟨_, _, rfl, rfl, by decide, rfl, rfl, rfl⟩
set_option maxRecDepth 100000 in
theorem okc_206 : okCp (49360, 161, 0, 1265, 1267, 54) := ⟨_, _, rfl, rfl, by decide, rfl, rfl, rfl⟩
set_option maxRecDepth 100000 in
theorem okc_207 : okCp (53286, 168, 0, 1269, 1270, 1271) := ⟨_, _, rfl, rfl, by decide, rfl, rfl, rfl⟩
set_option maxRecDepth 100000 in
theorem okc_208 : okCp (49374, 167, 0, 1273, 1275, 55) := ⟨_, _, rfl, rfl, by decide, rfl, rfl, rfl⟩
set_option maxRecDepth 100000 in
theorem okc_209 : okCp (49377, 163, 0, 1277, 1279, 56) := ⟨_, _, rfl, rfl, by decide, rfl, rfl, rfl⟩
set_option maxRecDepth 100000 in
theorem okc_210 : okCp (49367, 164, 0, 1281, 1283, 57) := ⟨_, _, rfl, rfl, by decide, rfl, rfl, rfl⟩
set_option maxRecDepth 100000 in
theorem okc_211 : okCp (49371, 160, 0, 1285, 1287, 58) := ⟨_, _, rfl, rfl, by decide, rfl, rfl, rfl⟩
set_option maxRecDepth 100000 in
theorem okc_212 : okCp (53290, 171, 0, 1289, 1290, 1291) := ⟨_, _, rfl, rfl, by decide, rfl, rfl, rfl⟩
set_option maxRecDepth 100000 in
theorem okc_213 : okCp (49389, 170, 0, 1293, 1295, 59) := ⟨_, _, rfl, rfl, by decide, rfl, rfl, rfl⟩
set_option maxRecDepth 100000 in
theorem okc_214 : okCp (49380, 159, 0, 1297, 1299, 60) := ⟨_, _, rfl, rfl, by decide, rfl, rfl, rfl⟩
set_option maxRecDepth 100000 in
theorem okc_215 : okCp (49356, 154, 0, 1301, 1303, 61) := ⟨_, _, rfl, rfl, by decide, rfl, rfl, rfl⟩
set_option maxRecDepth 100000 in
theorem okc_216 : okCp (49383, 165, 0, 1305, 1307, 62) := ⟨_, _, rfl, rfl, by decide, rfl, rfl, rfl⟩
set_option maxRecDepth 100000 in
theorem okc_217 : okCp (49386, 169, 0, 1309, 1311, 63) := ⟨_, _, rfl, rfl, by decide, rfl, rfl, rfl⟩
set_option maxRecDepth 100000 in
theorem okc_218 : okCp (53294, 172, 0, 1313, 1314, 1315) := ⟨_, _, rfl, rfl, by decide, rfl, rfl, rfl⟩
set_option maxRecDepth 100000 in
theorem okc_219 : okCp (53298, 173, 0, 1317, 1318, 1319) := ⟨_, _, rfl, rfl, by decide, rfl, rfl, rfl⟩
set_option maxRecDepth 100000 in
theorem okc_220 : okCp (53302, 174, 0, 1321, 1322, 1323) := ⟨_, _, rfl, rfl, by decide, rfl, rfl, rfl⟩
set_option maxRecDepth 100000 in
theorem okc_221 : okCp (49392, 153, 0, 1325, 1327, 64) := ⟨_, _, rfl, rfl, by decide, rfl, rfl, rfl⟩
set_option maxRecDepth 100000 in
theorem okc_222 : okCp (53306, 175, 0, 1329, 1330, 1331) := ⟨_, _, rfl, rfl, by decide, rfl, rfl, rfl⟩
set_option maxRecDepth 100000 in
theorem okc_223 : okCp (53310, 179, 0, 1333, 1334, 1335) := ⟨_, _, rfl, rfl, by decide, rfl, rfl, rfl⟩
set_option maxRecDepth 100000 in
theorem okc_224 : okCp (49401, 178, 0, 1337, 1339, 65) := ⟨_, _, rfl, rfl, by decide, rfl, rfl, rfl⟩
set_option maxRecDepth 100000 in
theorem okc_225 : okCp (49398, 177, 0, 1341, 1343, 66) := ⟨_, _, rfl, rfl, by decide, rfl, rfl, rfl⟩
set_option maxRecDepth 100000 in
theorem okc_226 : okCp (49395, 176, 0, 1345, 1347, 67) := ⟨_, _, rfl, rfl, by decide, rfl, rfl, rfl⟩
set_option maxRecDepth 100000 in
theorem okc_227 : okCp (53314, 185, 0, 1349, 1350, 1351) := ⟨_, _, rfl, rfl, by decide, rfl, rfl, rfl⟩
set_option maxRecDepth 100000 in
theorem okc_228 : okCp (49411, 184, 0, 1353, 1355, 68) := ⟨_, _, rfl, rfl, by decide, rfl, rfl, rfl⟩
set_option maxRecDepth 100000 in
theorem okc_229 : okCp (49414, 182, 0, 1357, 1359, 69) := ⟨_, _, rfl, rfl, by decide, rfl, rfl, rfl⟩
set_option maxRecDepth 100000 in
theorem okc_230 : okCp (49404, 180, 0, 1361, 1363, 70) := ⟨_, _, rfl, rfl, by decide, rfl, rfl, rfl⟩
set_option maxRecDepth 100000 in
theorem okc_231 : okCp (49407, 181, 2, 1365, 1366, 0) := ⟨_, _, rfl, rfl, by decide, rfl, rfl⟩
set_option maxRecDepth 100000 in
theorem okc_232 : okCp (49417, 183, 0, 1368, 1370, 71) := ⟨_, _, rfl, rfl, by decide, rfl, rfl, rfl⟩
set_option maxRecDepth 100000 in
theorem okc_233 : okCp (53318, 186, 0, 1372, 1373, 1374) := ⟨_, _, rfl, rfl, by decide, rfl, rfl, rfl⟩
set_option maxRecDepth 100000 in
theorem okc_234 : okCp (53322, 187, 0, 1376, 1377, 1378) := ⟨_, _, rfl, rfl, by decide, rfl, rfl, rfl⟩
set_option maxRecDepth 100000 in
theorem okc_235 : okCp (53326, 189, 0, 1381, 1382, 1383) := ⟨_, _, rfl, rfl, by decide, rfl, rfl, rfl⟩
set_option maxRecDepth 100000 in
theorem okc_236 : okCp (49424, 188, 0, 1385, 1387, 72) := ⟨_, _, rfl, rfl, by decide, rfl, rfl, rfl⟩
set_option maxRecDepth 100000 in
theorem okc_237 : okCp (53331, 193, 0, 1389, 1390, 1391) := ⟨_, _, rfl, rfl, by decide, rfl, rfl, rfl⟩
set_option maxRecDepth 100000 in
theorem okc_238 : okCp (49430, 191, 0, 1393, 1395, 73) := ⟨_, _, rfl, rfl, by decide, rfl, rfl, rfl⟩
set_option maxRecDepth 100000 in
theorem okc_239 : okCp (49427, 190, 0, 1397, 1399, 74) := ⟨_, _, rfl, rfl, by decide, rfl, rfl, rfl⟩
set_option maxRecDepth 100000 in
theorem okc_240 : okCp (49433, 192, 0, 1401, 1403, 75) := ⟨_, _, rfl, rfl, by decide, rfl, rfl, rfl⟩
set_option maxRecDepth 100000 in
theorem okc_241 : okCp (53335, 194, 0, 1405, 1406, 1407) := ⟨_, _, rfl, rfl, by decide, rfl, rfl, rfl⟩
set_option maxRecDepth 100000 in
theorem okc_242 : okCp (53339, 197, 0, 1409, 1410, 1411) := ⟨_, _, rfl, rfl, by decide, rfl, rfl, rfl⟩
set_option maxRecDepth 100000 in
theorem okc_243 : okCp (49442, 195, 0, 1413, 1415, 76) := ⟨_, _, rfl, rfl, by decide, rfl, rfl, rfl⟩
set_option maxRecDepth 100000 in
theorem okc_244 : okCp (49445, 196, 0, 1417, 1419, 77) := ⟨_, _, rfl, rfl, by decide, rfl, rfl, rfl⟩
set_option maxRecDepth 100000 in
theorem okc_245 : okCp (53343, 198, 0, 1421, 1422, 1423) := ⟨_, _, rfl, rfl, by decide, rfl, rfl, rfl⟩
set_option maxRecDepth 100000 in
theorem okc_246 : okCp (53347, 199, 0, 1425, 1426, 1427) := ⟨_, _, rfl, rfl, by decide, rfl, rfl, rfl⟩
set_option maxRecDepth 100000 in
theorem okc_247 : okCp (53351, 205, 0, 1429, 1430, 1431) := ⟨_, _, rfl, rfl, by decide, rfl, rfl, rfl⟩
set_option maxRecDepth 100000 in
theorem okc_248 : okCp (49466, 204, 0, 1433, 1435, 78) := ⟨_, _, rfl, rfl, by decide, rfl, rfl, rfl⟩
set_option maxRecDepth 100000 in
theorem okc_249 : okCp (49457, 202, 0, 1437, 1439, 79) := ⟨_, _, rfl, rfl, by decide, rfl, rfl, rfl⟩
set_option maxRecDepth 100000 in
theorem okc_250 : okCp (49451, 201, 0, 1441, 1443, 80) := ⟨_, _, rfl, rfl, by decide, rfl, rfl, rfl⟩
set_option maxRecDepth 100000 in
theorem okc_251 : okCp (49454, 203, 0, 1445, 1447, 81) := ⟨_, _, rfl, rfl, by decide, rfl, rfl, rfl⟩
set_option maxRecDepth 100000 in
theorem okc_252 : okCp (49460, 200, 0, 1449, 1451, 82) := ⟨_, _, rfl, rfl, by decide, rfl, rfl, rfl⟩
set_option maxRecDepth 100000 in
theorem okc_253 : okCp (53355, 206, 0, 1453, 1454, 1455) := ⟨_, _, rfl, rfl, by decide, rfl, rfl, rfl⟩
set_option maxRecDepth 100000 in
theorem okc_254 : okCp (53359, 207, 0, 1457, 1458, 1459) := ⟨_, _, rfl, rfl, by decide, rfl, rfl, rfl⟩
set_option maxRecDepth 100000 in
theorem okc_255 : okCp (53363, 208, 0, 1461, 1462, 1463) := ⟨_, _, rfl, rfl, by decide, rfl, rfl, rfl⟩
set_option maxRecDepth 100000 in
theorem okc_256 : okCp (53367, 209, 0, 1465, 1237, 1238) := ⟨_, _, rfl, rfl, by decide, rfl, rfl, rfl⟩
set_option maxRecDepth 100000 in
theorem okc_257 : okCp (53371, 210, 0, 1466, 1467, 1468) := ⟨_, _, rfl, rfl, by decide, rfl, rfl, rfl⟩
set_option maxRecDepth 100000 in
theorem okc_258 : okCp (53375, 211, 0, 1470, 1471, 1472) := ⟨_, _, rfl, rfl, by decide, rfl, rfl, rfl⟩
set_option maxRecDepth 100000 in
theorem okc_259 : okCp (53384, 212, 0, 1474, 1475, 1476) := ⟨_, _, rfl, rfl, by decide, rfl, rfl, rfl⟩
set_option maxRecDepth 100000 in
theorem okc_260 : okCp (53388, 213, 0, 1478, 1479, 1480) := ⟨_, _, rfl, rfl, by decide, rfl, rfl, rfl⟩
set_option maxRecDepth 100000 in
theorem okc_261 : okCp (53392, 214, 0, 1482, 1483, 1484) := ⟨_, _, rfl, rfl, by decide, rfl, rfl, rfl⟩
set_option maxRecDepth 100000 in
theorem okc_262 : okCp (53397, 215, 0, 1486, 1487, 1488) := ⟨_, _, rfl, rfl, by decide, rfl, rfl, rfl⟩
set_option maxRecDepth 100000 in
theorem okc_263 : okCp (53401, 216, 0, 1490, 1491, 1492) := ⟨_, _, rfl, rfl, by decide, rfl, rfl, rfl⟩
set_option maxRecDepth 100000 in
theorem okc_264 : okCp (49478, 187, 0, 1494, 1377, 1378) := ⟨_, _, rfl, rfl, by decide, rfl, rfl, rfl⟩
set_option maxRecDepth 100000 in
theorem okc_265 : okCp (53405, 218, 0, 1495, 1496, 1497) := ⟨_, _, rfl, rfl, by decide, rfl, rfl, rfl⟩
set_option maxRecDepth 100000 in
theorem okc_266 : okCp (49481, 217, 2, 1499, 1500, 0) := ⟨_, _, rfl, rfl, by decide, rfl, rfl⟩
set_option maxRecDepth 100000 in
theorem okM_all : abAll okMp (abMT.take 220) := ⟨okm_0, okm_1, okm_2, okm_3, okm_4, okm_5, okm_6, okm_7, okm_8, okm_9, okm_10, okm_11, okm_12, okm_13, okm_14, okm_15, okm_16, okm_17, okm_18, okm_19, okm_20, okm_21, okm_22, okm_23, okm_24, okm_25, okm_26, okm_27, okm_28, okm_29, okm_30, okm_31, okm_32, okm_33, okm_34, okm_35, okm_36, okm_37, okm_38, okm_39, okm_40, okm_41, okm_42, okm_43, okm_44, okm_45, okm_46, okm_47, okm_48, okm_49, okm_50, okm_51, okm_52, okm_53, okm_54, okm_55, okm_56, okm_57, okm_58, okm_59, okm_60, okm_61, okm_62, okm_63, okm_64, okm_65, okm_66, okm_67, okm_68, okm_69, okm_70, okm_71, okm_72, okm_73, okm_74, okm_75, okm_76, okm_77, okm_78, okm_79, okm_80, okm_81, okm_82, okm_83, okm_84, okm_85, okm_86, okm_87, okm_88, okm_89, okm_90, okm_91, okm_92, okm_93, okm_94, okm_95, okm_96, okm_97, okm_98, okm_99, okm_100, okm_101, okm_102, okm_103, okm_104, okm_105, okm_106, okm_107, okm_108, okm_109, okm_110, okm_111, okm_112, okm_113, okm_114, okm_115, okm_116, okm_117, okm_118, okm_119, okm_120, okm_121, okm_122, okm_123, okm_124, okm_125, okm_126, okm_127, okm_128, okm_129, okm_130, okm_131, okm_132, okm_133, okm_134, okm_135, okm_136, okm_137, okm_138, okm_139, okm_140, okm_141, okm_142, okm_143, okm_144, okm_145, okm_146, okm_147, okm_148, okm_149, okm_150, okm_151, okm_152, okm_153, okm_154, okm_155, okm_156, okm_157, okm_158, okm_159, okm_160, okm_161, okm_162, okm_163, okm_164, okm_165, okm_166, okm_167, okm_168, okm_169, okm_170, okm_171, okm_172, okm_173, okm_174, okm_175, okm_176, okm_177, okm_178, okm_179, okm_180, okm_181, okm_182, okm_183, okm_184, okm_185, okm_186, okm_187, okm_188, okm_189, okm_190, okm_191, okm_192, okm_193, okm_194, okm_195, okm_196, okm_197, okm_198, okm_199, okm_200, okm_201, okm_202, okm_203, okm_204, okm_205, okm_206, okm_207, okm_208, okm_209, okm_210, okm_211, okm_212, okm_213, okm_214, okm_215, okm_216, okm_217, okm_218, okm_219, trivial⟩
set_option maxRecDepth 100000 in
theorem okC_all : abAll okCp abCT := ⟨okc_0, okc_1, okc_2, okc_3, okc_4, okc_5, okc_6, okc_7, okc_8, okc_9, okc_10, okc_11, okc_12, okc_13, okc_14, okc_15, okc_16, okc_17, okc_18, okc_19, okc_20, okc_21, okc_22, okc_23, okc_24, okc_25, okc_26, okc_27, okc_28, okc_29, okc_30, okc_31, okc_32, okc_33, okc_34, okc_35, okc_36, okc_37, okc_38, okc_39, okc_40, okc_41, okc_42, okc_43, okc_44, okc_45, okc_46, okc_47, okc_48, okc_49, okc_50, okc_51, okc_52, okc_53, okc_54, okc_55, okc_56, okc_57, okc_58, okc_59, okc_60, okc_61, okc_62, okc_63, okc_64, okc_65, okc_66, okc_67, okc_68, okc_69, okc_70, okc_71, okc_72, okc_73, okc_74, okc_75, okc_76, okc_77, okc_78, okc_79, okc_80, okc_81, okc_82, okc_83, okc_84, okc_85, okc_86, okc_87, okc_88, okc_89, okc_90, okc_91, okc_92, okc_93, okc_94, okc_95, okc_96, okc_97, okc_98, okc_99, okc_100, okc_101, okc_102, okc_103, okc_104, okc_105, okc_106, okc_107, okc_108, okc_109, okc_110, okc_111, okc_112, okc_113, okc_114, okc_115, okc_116, okc_117, okc_118, okc_119, okc_120, okc_121, okc_122, okc_123, okc_124, okc_125, okc_126, okc_127, okc_128, okc_129, okc_130, okc_131, okc_132, okc_133, okc_134, okc_135, okc_136, okc_137, okc_138, okc_139, okc_140, okc_141, okc_142, okc_143, okc_144, okc_145, okc_146, okc_147, okc_148, okc_149, okc_150, okc_151, okc_152, okc_153, okc_154, okc_155, okc_156, okc_157, okc_158, okc_159, okc_160, okc_161, okc_162, okc_163, okc_164, okc_165, okc_166, okc_167, okc_168, okc_169, okc_170, okc_171, okc_172, okc_173, okc_174, okc_175, okc_176, okc_177, okc_178, okc_179, okc_180, okc_181, okc_182, okc_183, okc_184, okc_185, okc_186, okc_187, okc_188, okc_189, okc_190, okc_191, okc_192, okc_193, okc_194, okc_195, okc_196, okc_197, okc_198, okc_199, okc_200, okc_201, okc_202, okc_203, okc_204, okc_205, okc_206, okc_207, okc_208, okc_209, okc_210, okc_211, okc_212, okc_213, okc_214, okc_215, okc_216, okc_217, okc_218, okc_219, okc_220, okc_221, okc_222, okc_223, okc_224, okc_225, okc_226, okc_227, okc_228, okc_229, okc_230, okc_231, okc_232, okc_233, okc_234, okc_235, okc_236, okc_237, okc_238, okc_239, okc_240, okc_241, okc_242, okc_243, okc_244, okc_245, okc_246, okc_247, okc_248, okc_249, okc_250, okc_251, okc_252, okc_253, okc_254, okc_255, okc_256, okc_257, okc_258, okc_259, okc_260, okc_261, okc_262, okc_263, okc_264, okc_265, okc_266, trivial⟩
