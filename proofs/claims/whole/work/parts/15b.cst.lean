/-! THE TABLES LOOKED UP, constants -/
theorem mt0 : abMT[0]? = some (yX0_init, cX0_init, 1, none, 0, 0, 378, 93) := rfl
theorem mt1 : abMT[1]? = some (yX0_empty, cX0_empty, 2, none, 0, 0, 434, 93) := rfl
theorem mt2 : abMT[2]? = some (yX0_takeFrom, cX0_takeFrom, 2, none, 1, 0, 960, 93) := rfl
theorem mt3 : abMT[3]? = some (yX0_walk, cX0_walk, 5, none, 1, 0, 894, 93) := rfl
theorem mt4 : abMT[4]? = some (yX0_putGiven, cX0_putGiven, 3, none, 1, 0, 898, 93) := rfl
theorem mt5 : abMT[5]? = some (yX0_putWritten, cX0_putWritten, 4, none, 3, 0, 918, 93) := rfl
theorem mt6 : abMT[6]? = some (yX0_placeFor, cX0_placeFor, 9, (some .int), 2, 0, 906, 93) := rfl
theorem mt7 : abMT[7]? = some (yX0_isBetter, cX0_isBetter, 3, (some .boolean), 2, 0, 914, 93) := rfl
theorem mt8 : abMT[8]? = some (yX0_lowestFrom, cX0_lowestFrom, 5, (some .int), 2, 0, 910, 93) := rfl
theorem mt9 : abMT[9]? = some (yX0_top, cX0_top, 4, (some .int), 1, 0, 922, 93) := rfl
theorem mt10 : abMT[10]? = some (yX0_moveDown, cX0_moveDown, 7, (some .int), 1, 0, 931, 93) := rfl
theorem mt11 : abMT[11]? = some (yX0_lowestBut, cX0_lowestBut, 4, (some .int), 1, 0, 935, 93) := rfl
theorem mt12 : abMT[12]? = some (yX0_whoHolds, cX0_whoHolds, 4, (some .int), 2, 0, 948, 93) := rfl
theorem mt13 : abMT[13]? = some (yX1_init, cX1_init, 1, none, 0, 1, 318, 90) := rfl
theorem mt14 : abMT[14]? = some (yX1_find, cX1_find, 3, (some .int), 2, 1, 755, 90) := rfl
theorem mt15 : abMT[15]? = some (yX1_extend, cX1_extend, 5, none, 3, 1, 760, 90) := rfl
theorem mt16 : abMT[16]? = some (yX1_put, cX1_put, 5, none, 4, 1, 767, 90) := rfl
theorem mt17 : abMT[17]? = some (yX1_upperEnd, cX1_upperEnd, 2, (some .int), 1, 1, 786, 90) := rfl
theorem mt18 : abMT[18]? = some (yX1_lowestPlace, cX1_lowestPlace, 6, (some .int), 2, 1, 771, 90) := rfl
theorem mt19 : abMT[19]? = some (yX1_firstHit, cX1_firstHit, 8, (some .int), 3, 1, 775, 90) := rfl
theorem mt20 : abMT[20]? = some (yX2_isKind, cX2_isKind, 1, (some .boolean), 1, 2, 465, 95) := rfl
theorem mt21 : abMT[21]? = some (yX2_isOne, cX2_isOne, 4, (some .boolean), 2, 2, 462, 95) := rfl
theorem mt22 : abMT[22]? = some (yX2_isOver, cX2_isOver, 1, (some .boolean), 1, 2, 459, 95) := rfl
theorem mt23 : abMT[23]? = some (yX2_ticks, cX2_ticks, 2, (some .int), 2, 2, 698, 95) := rfl
theorem mt24 : abMT[24]? = some (yX2_scratch, cX2_scratch, 3, (some .int), 3, 2, 453, 95) := rfl
theorem mt25 : abMT[25]? = some (yX3_init, cX3_init, 1, none, 0, 3, 220, 88) := rfl
theorem mt26 : abMT[26]? = some (yX3_measure, cX3_measure, 6, none, 2, 3, 446, 88) := rfl
theorem mt27 : abMT[27]? = some (yX3_overAt, cX3_overAt, 8, (some .int), 2, 3, 491, 88) := rfl
theorem mt28 : abMT[28]? = some (yX3_isFirst, cX3_isFirst, 3, (some .boolean), 2, 3, 495, 88) := rfl
theorem mt29 : abMT[29]? = some (yX3_heldAfter, cX3_heldAfter, 6, (some .int), 1, 3, 499, 88) := rfl
theorem mt30 : abMT[30]? = some (yX3_loadAt, cX3_loadAt, 7, (some .int), 3, 3, 503, 88) := rfl
theorem mt31 : abMT[31]? = some (yX4_init, cX4_init, 1, none, 0, 4, 295, 89) := rfl
theorem mt32 : abMT[32]? = some (yX4_find, cX4_find, 4, none, 1, 4, 721, 89) := rfl
theorem mt33 : abMT[33]? = some (yX4_leastFrom, cX4_leastFrom, 6, (some .int), 2, 4, 725, 89) := rfl
theorem mt34 : abMT[34]? = some (yX4_peakThrough, cX4_peakThrough, 5, (some .int), 4, 4, 732, 89) := rfl
theorem mt35 : abMT[35]? = some (yX4_findRow, cX4_findRow, 5, none, 1, 4, 739, 89) := rfl
theorem mt36 : abMT[36]? = some (yX4_firstWithin, cX4_firstWithin, 5, (some .int), 2, 4, 743, 89) := rfl
theorem mt37 : abMT[37]? = some (yX5_init, cX5_init, 1, none, 0, 5, 362, 92) := rfl
theorem mt38 : abMT[38]? = some (yX5_spread, cX5_spread, 4, none, 1, 5, 862, 92) := rfl
theorem mt39 : abMT[39]? = some (yX5_together, cX5_together, 4, (some .int), 1, 5, 868, 92) := rfl
theorem mt40 : abMT[40]? = some (yX5_mostBehind, cX5_mostBehind, 6, (some .int), 2, 5, 872, 92) := rfl
theorem mt41 : abMT[41]? = some (yX5_bestOf, cX5_bestOf, 6, (some .int), 1, 5, 881, 92) := rfl
theorem mt42 : abMT[42]? = some (yX6_init, cX6_init, 1, none, 0, 6, 136, 86) := rfl
theorem mt43 : abMT[43]? = some (yX6_clear, cX6_clear, 2, none, 0, 6, 209, 86) := rfl
theorem mt44 : abMT[44]? = some (yX6_has, cX6_has, 2, (some .boolean), 1, 6, 600, 86) := rfl
theorem mt45 : abMT[45]? = some (yX6_hasStep, cX6_hasStep, 2, (some .boolean), 1, 6, 663, 86) := rfl
theorem mt46 : abMT[46]? = some (yX6_addTerm, cX6_addTerm, 5, none, 3, 6, 644, 86) := rfl
theorem mt47 : abMT[47]? = some (yX6_addStep, cX6_addStep, 3, (some .int), 1, 6, 592, 86) := rfl
theorem mt48 : abMT[48]? = some (yX6_addRead, cX6_addRead, 3, none, 2, 6, 608, 86) := rfl
theorem mt49 : abMT[49]? = some (yX6_addWrite, cX6_addWrite, 3, none, 2, 6, 620, 86) := rfl
theorem mt50 : abMT[50]? = some (yX6_isRead, cX6_isRead, 3, (some .boolean), 2, 6, 604, 86) := rfl
theorem mt51 : abMT[51]? = some (yX6_sizeOf, cX6_sizeOf, 5, (some .int), 2, 6, 450, 86) := rfl
theorem mt52 : abMT[52]? = some (yX6_ticksOf, cX6_ticksOf, 2, (some .int), 1, 6, 695, 86) := rfl
theorem mt53 : abMT[53]? = some (yX6_ticksOfAll, cX6_ticksOfAll, 3, (some .int), 0, 6, 691, 86) := rfl
theorem mt54 : abMT[54]? = some (yX6_isReady, cX6_isReady, 5, (some .boolean), 2, 6, 479, 86) := rfl
theorem mt55 : abMT[55]? = some (yX7_init, cX7_init, 1, none, 0, 7, 112, 85) := rfl
theorem mt56 : abMT[56]? = some (yX7_append, cX7_append, 5, none, 2, 7, 558, 85) := rfl
theorem mt57 : abMT[57]? = some (yX7_readInto, cX7_readInto, 3, (some .int), 1, 7, 566, 85) := rfl
theorem mt58 : abMT[58]? = some (yX7_readStatement, cX7_readStatement, 3, (some .boolean), 0, 7, 575, 85) := rfl
theorem mt59 : abMT[59]? = some (yX7_readWanted, cX7_readWanted, 2, (some .boolean), 1, 7, 632, 85) := rfl
theorem mt60 : abMT[60]? = some (yX7_readSize, cX7_readSize, 3, (some .boolean), 1, 7, 636, 85) := rfl
theorem mt61 : abMT[61]? = some (yX7_readTerm, cX7_readTerm, 4, (some .boolean), 1, 7, 640, 85) := rfl
theorem mt62 : abMT[62]? = some (yX7_readStep, cX7_readStep, 3, (some .boolean), 1, 7, 588, 85) := rfl
theorem mt63 : abMT[63]? = some (yX7_readReads, cX7_readReads, 4, none, 1, 7, 596, 85) := rfl
theorem mt64 : abMT[64]? = some (yX7_readWrite, cX7_readWrite, 3, (some .boolean), 1, 7, 616, 85) := rfl
theorem mt65 : abMT[65]? = some (yX7_readTime, cX7_readTime, 2, (some .boolean), 1, 7, 624, 85) := rfl
theorem mt66 : abMT[66]? = some (yX7_readNumber, cX7_readNumber, 3, (some .int), 0, 7, 628, 85) := rfl
theorem mt67 : abMT[67]? = some (yX7_skip, cX7_skip, 2, (some .boolean), 1, 7, 612, 85) := rfl
theorem mt68 : abMT[68]? = some (yX7_digitHere, cX7_digitHere, 1, (some .int), 0, 7, 583, 85) := rfl
theorem mt69 : abMT[69]? = some (yX7_bufferHere, cX7_bufferHere, 1, (some .int), 0, 7, 579, 85) := rfl
theorem mt70 : abMT[70]? = some (yX7_goTo, cX7_goTo, 2, none, 1, 7, 571, 85) := rfl
theorem mt71 : abMT[71]? = some (yX8_init, cX8_init, 1, none, 0, 8, 345, 91) := rfl
theorem mt72 : abMT[72]? = some (yX8_find, cX8_find, 9, (some .int), 4, 8, 823, 91) := rfl
theorem mt73 : abMT[73]? = some (yX8_buffersOf, cX8_buffersOf, 4, (some .int), 1, 8, 827, 91) := rfl
theorem mt74 : abMT[74]? = some (yX8_timeOf, cX8_timeOf, 7, (some .int), 2, 8, 831, 91) := rfl
theorem mt75 : abMT[75]? = some (yX8_fits, cX8_fits, 4, (some .boolean), 2, 8, 846, 91) := rfl
theorem mt76 : abMT[76]? = some (yX8_outAt, cX8_outAt, 5, (some .int), 2, 8, 850, 91) := rfl
theorem mt77 : abMT[77]? = some (yX9_init, cX9_init, 1, none, 0, 9, 406, 94) := rfl
theorem mt78 : abMT[78]? = some (yX9_become, cX9_become, 4, none, 2, 9, 988, 94) := rfl
theorem mt79 : abMT[79]? = some (yX9_put, cX9_put, 3, none, 2, 9, 1000, 94) := rfl
theorem mt80 : abMT[80]? = some (yX9_spans, cX9_spans, 3, (some .boolean), 2, 9, 996, 94) := rfl
theorem mt81 : abMT[81]? = some (yX10_init, cX10_init, 1, none, 0, 10, 214, 87) := rfl
theorem mt82 : abMT[82]? = some (yX10_renew, cX10_renew, 3, none, 2, 10, 442, 87) := rfl
theorem mt83 : abMT[83]? = some (yX10_firstWrong, cX10_firstWrong, 6, (some .int), 2, 10, 659, 87) := rfl
theorem mt84 : abMT[84]? = some (yX10_tell, cX10_tell, 3, none, 1, 10, 667, 87) := rfl
theorem mt85 : abMT[85]? = some (yX10_findOrder, cX10_findOrder, 4, (some .boolean), 0, 10, 471, 87) := rfl
theorem mt86 : abMT[86]? = some (yX10_leastReady, cX10_leastReady, 3, (some .int), 1, 10, 475, 87) := rfl
theorem mt87 : abMT[87]? = some (yX10_findLives, cX10_findLives, 4, none, 0, 10, 483, 87) := rfl
theorem mt88 : abMT[88]? = some (yX10_findLoads, cX10_findLoads, 4, none, 0, 10, 487, 87) := rfl
theorem mt89 : abMT[89]? = some (yX10_placeOfPeak, cX10_placeOfPeak, 3, (some .int), 0, 10, 702, 87) := rfl
theorem mt90 : abMT[90]? = some (yX10_isAlive, cX10_isAlive, 2, (some .boolean), 1, 10, 902, 87) := rfl
theorem mt91 : abMT[91]? = some (yX10_areAlive, cX10_areAlive, 3, (some .boolean), 2, 10, 779, 87) := rfl
theorem mt92 : abMT[92]? = some (yX10_hinder, cX10_hinder, 6, (some .boolean), 2, 10, 812, 87) := rfl
theorem mt93 : abMT[93]? = some (yX10_idlePlaces, cX10_idlePlaces, 5, (some .int), 1, 10, 835, 87) := rfl
theorem mt94 : abMT[94]? = some (yX11_init, cX11_init, 2, none, 0, 11, 104, 84) := rfl
theorem mt95 : abMT[95]? = some (yX11_feed, cX11_feed, 4, (some .int), 2, 11, 554, 84) := rfl
theorem mt96 : abMT[96]? = some (yX11_program, cX11_program, 3, (some .int), 0, 11, 562, 84) := rfl
theorem mt97 : abMT[97]? = some (yX11_letter, cX11_letter, 4, (some .int), 2, 11, 648, 84) := rfl
theorem mt98 : abMT[98]? = some (yX11_order, cX11_order, 4, (some .int), 1, 11, 652, 84) := rfl
theorem mt99 : abMT[99]? = some (yX11_orderTold, cX11_orderTold, 3, (some .int), 1, 11, 671, 84) := rfl
theorem mt100 : abMT[100]? = some (yX11_load, cX11_load, 3, (some .int), 1, 11, 679, 84) := rfl
theorem mt101 : abMT[101]? = some (yX11_over, cX11_over, 3, (some .int), 1, 11, 683, 84) := rfl
theorem mt102 : abMT[102]? = some (yX11_peak, cX11_peak, 3, (some .int), 1, 11, 687, 84) := rfl
theorem mt103 : abMT[103]? = some (yX11_bufferTold, cX11_bufferTold, 3, (some .int), 2, 11, 706, 84) := rfl
theorem mt104 : abMT[104]? = some (yX11_stepTold, cX11_stepTold, 3, (some .int), 2, 11, 711, 84) := rfl
theorem mt105 : abMT[105]? = some (yX11_leastPeak, cX11_leastPeak, 2, (some .int), 1, 11, 717, 84) := rfl
theorem mt106 : abMT[106]? = some (yX11_height, cX11_height, 3, (some .int), 1, 11, 747, 84) := rfl
theorem mt107 : abMT[107]? = some (yX11_heightAt, cX11_heightAt, 2, (some .int), 1, 11, 791, 84) := rfl
theorem mt108 : abMT[108]? = some (yX11_lay, cX11_lay, 4, (some .int), 2, 11, 795, 84) := rfl
theorem mt109 : abMT[109]? = some (yX11_clash, cX11_clash, 3, (some .int), 0, 11, 803, 84) := rfl
theorem mt110 : abMT[110]? = some (yX11_sendOut, cX11_sendOut, 6, (some .int), 3, 11, 819, 84) := rfl
theorem mt111 : abMT[111]? = some (yX11_outs, cX11_outs, 1, (some .int), 0, 11, 854, 84) := rfl
theorem mt112 : abMT[112]? = some (yX11_pair, cX11_pair, 2, (some .int), 1, 11, 858, 84) := rfl
theorem mt113 : abMT[113]? = some (yX11_bestPhase, cX11_bestPhase, 2, (some .int), 1, 11, 877, 84) := rfl
theorem mt114 : abMT[114]? = some (yX11_rule, cX11_rule, 3, (some .int), 1, 11, 886, 84) := rfl
theorem mt115 : abMT[115]? = some (yX11_go, cX11_go, 3, (some .int), 1, 11, 890, 84) := rfl
theorem mt116 : abMT[116]? = some (yX11_compact, cX11_compact, 1, (some .int), 0, 11, 927, 84) := rfl
theorem mt117 : abMT[117]? = some (yX11_roomTold, cX11_roomTold, 3, (some .int), 2, 11, 939, 84) := rfl
theorem mt118 : abMT[118]? = some (yX11_holder, cX11_holder, 2, (some .int), 1, 11, 944, 84) := rfl
theorem mt119 : abMT[119]? = some (yX11_again, cX11_again, 2, (some .int), 0, 11, 952, 84) := rfl
theorem mt120 : abMT[120]? = some (yX11_image, cX11_image, 1, (some .int), 0, 11, 956, 84) := rfl
theorem mt121 : abMT[121]? = some (yX11_back, cX11_back, 1, (some .int), 0, 11, 965, 84) := rfl
theorem mt122 : abMT[122]? = some (yX11_kindTold, cX11_kindTold, 5, (some .int), 4, 11, 969, 84) := rfl
theorem mt123 : abMT[123]? = some (yX11_count, cX11_count, 2, (some .int), 1, 11, 977, 84) := rfl
theorem mt124 : abMT[124]? = some (yX11_sheet, cX11_sheet, 4, (some .int), 3, 11, 981, 84) := rfl
theorem mt125 : abMT[125]? = some (yX11_cell, cX11_cell, 4, (some .int), 3, 11, 992, 84) := rfl
theorem mt126 : abMT[126]? = some (yX11_copy, cX11_copy, 8, (some .int), 5, 11, 1004, 84) := rfl
theorem mt127 : abMT[127]? = some (yX11_lays, cX11_lays, 10, (some .int), 4, 11, 1009, 84) := rfl
theorem mt128 : abMT[128]? = some (yX11_taken, cX11_taken, 5, (some .int), 3, 11, 1013, 84) := rfl
theorem mt129 : abMT[129]? = some (yX11_isSheet, cX11_isSheet, 1, (some .boolean), 1, 11, 655, 84) := rfl
theorem mt130 : abMT[130]? = some (yX11_isSort, cX11_isSort, 1, (some .boolean), 1, 11, 984, 84) := rfl
theorem mt131 : abMT[131]? = some (yX11_isPlanned, cX11_isPlanned, 1, (some .boolean), 1, 11, 798, 84) := rfl
theorem mt132 : abMT[132]? = some (yX11_shareCells, cX11_shareCells, 4, (some .boolean), 4, 11, 782, 84) := rfl
theorem mt133 : abMT[133]? = some (yX11_begin, cX11_begin, 2, none, 0, 11, 430, 84) := rfl
theorem mt134 : abMT[134]? = some (yX11_renew, cX11_renew, 1, none, 0, 11, 438, 84) := rfl
theorem mt135 : abMT[135]? = some (yX11_refusalOfPlace, cX11_refusalOfPlace, 2, (some .int), 1, 11, 675, 84) := rfl
theorem mt136 : abMT[136]? = some (yX11_refusalOfBuffers, cX11_refusalOfBuffers, 4, (some .int), 1, 11, 751, 84) := rfl
theorem mt137 : abMT[137]? = some (yX11_plannedTogether, cX11_plannedTogether, 4, (some .boolean), 2, 11, 807, 84) := rfl
theorem mt138 : abMT[138]? = some (yX12_init, cX12_init, 1, none, 0, 12, 1019, 97) := rfl
theorem mt139 : abMT[139]? = some (yX12_in, cX12_in, 3, (some .boolean), 3, 12, 1190, 97) := rfl
theorem mt140 : abMT[140]? = some (yX12_feed, cX12_feed, 5, (some .int), 2, 12, 1187, 97) := rfl
theorem mt141 : abMT[141]? = some (yX12_here, cX12_here, 1, (some .int), 0, 12, 1207, 97) := rfl
theorem mt142 : abMT[142]? = some (yX12_number, cX12_number, 3, (some .int), 0, 12, 1227, 97) := rfl
theorem mt143 : abMT[143]? = some (yX12_eats, cX12_eats, 3, (some .boolean), 1, 12, 1219, 97) := rfl
theorem mt144 : abMT[144]? = some (yX12_readsSize, cX12_readsSize, 5, (some .boolean), 1, 12, 1231, 97) := rfl
theorem mt145 : abMT[145]? = some (yX12_isWritten, cX12_isWritten, 3, (some .boolean), 1, 12, 1223, 97) := rfl
theorem mt146 : abMT[146]? = some (yX12_isRead, cX12_isRead, 5, (some .boolean), 3, 12, 1215, 97) := rfl
theorem mt147 : abMT[147]? = some (yX12_readsStep, cX12_readsStep, 4, (some .boolean), 0, 12, 1211, 97) := rfl
theorem mt148 : abMT[148]? = some (yX12_readsOne, cX12_readsOne, 4, (some .boolean), 0, 12, 1203, 97) := rfl
theorem mt149 : abMT[149]? = some (yX12_begins, cX12_begins, 2, none, 0, 12, 1199, 97) := rfl
theorem mt150 : abMT[150]? = some (yX12_takes, cX12_takes, 3, none, 0, 12, 1235, 97) := rfl
theorem mt151 : abMT[151]? = some (yX12_program, cX12_program, 2, (some .int), 0, 12, 1195, 97) := rfl
theorem mt152 : abMT[152]? = some (yX12_letter, cX12_letter, 4, (some .int), 2, 12, 1243, 97) := rfl
theorem mt153 : abMT[153]? = some (yX12_isBuffer, cX12_isBuffer, 2, (some .boolean), 1, 12, 1328, 97) := rfl
theorem mt154 : abMT[154]? = some (yX12_sizeOf, cX12_sizeOf, 5, (some .int), 1, 12, 1304, 97) := rfl
theorem mt155 : abMT[155]? = some (yX12_ticksOf, cX12_ticksOf, 2, (some .int), 2, 12, 1250, 97) := rfl
theorem mt156 : abMT[156]? = some (yX12_scratchOf, cX12_scratchOf, 3, (some .int), 3, 12, 1253, 97) := rfl
theorem mt157 : abMT[157]? = some (yX12_isOver, cX12_isOver, 1, (some .boolean), 1, 12, 1256, 97) := rfl
theorem mt158 : abMT[158]? = some (yX12_kindTold, cX12_kindTold, 5, (some .int), 4, 12, 1247, 97) := rfl
theorem mt159 : abMT[159]? = some (yX12_scratch, cX12_scratch, 4, (some .int), 1, 12, 1300, 97) := rfl
theorem mt160 : abMT[160]? = some (yX12_doesRead, cX12_doesRead, 4, (some .boolean), 2, 12, 1288, 97) := rfl
theorem mt161 : abMT[161]? = some (yX12_writerOf, cX12_writerOf, 3, (some .int), 1, 12, 1268, 97) := rfl
theorem mt162 : abMT[162]? = some (yX12_isReady, cX12_isReady, 5, (some .boolean), 2, 12, 1264, 97) := rfl
theorem mt163 : abMT[163]? = some (yX12_orders, cX12_orders, 4, (some .boolean), 0, 12, 1280, 97) := rfl
theorem mt164 : abMT[164]? = some (yX12_lives, cX12_lives, 3, none, 1, 12, 1284, 97) := rfl
theorem mt165 : abMT[165]? = some (yX12_isAlive, cX12_isAlive, 3, (some .boolean), 2, 12, 1308, 97) := rfl
theorem mt166 : abMT[166]? = some (yX12_order, cX12_order, 5, (some .int), 1, 12, 1260, 97) := rfl
theorem mt167 : abMT[167]? = some (yX12_isPlace, cX12_isPlace, 2, (some .boolean), 1, 12, 1276, 97) := rfl
theorem mt168 : abMT[168]? = some (yX12_orderTold, cX12_orderTold, 2, (some .int), 1, 12, 1272, 97) := rfl
theorem mt169 : abMT[169]? = some (yX12_overAt, cX12_overAt, 5, (some .int), 1, 12, 1312, 97) := rfl
theorem mt170 : abMT[170]? = some (yX12_loadAt, cX12_loadAt, 6, (some .int), 1, 12, 1296, 97) := rfl
theorem mt171 : abMT[171]? = some (yX12_load, cX12_load, 2, (some .int), 1, 12, 1292, 97) := rfl
theorem mt172 : abMT[172]? = some (yX12_over, cX12_over, 2, (some .int), 1, 12, 1316, 97) := rfl
theorem mt173 : abMT[173]? = some (yX12_peak, cX12_peak, 6, (some .int), 1, 12, 1320, 97) := rfl
theorem mt174 : abMT[174]? = some (yX12_bufferTold, cX12_bufferTold, 3, (some .int), 2, 12, 1324, 97) := rfl
theorem mt175 : abMT[175]? = some (yX12_stepTold, cX12_stepTold, 3, (some .int), 2, 12, 1332, 97) := rfl
theorem mt176 : abMT[176]? = some (yX12_isNeeded, cX12_isNeeded, 4, (some .boolean), 2, 12, 1348, 97) := rfl
theorem mt177 : abMT[177]? = some (yX12_loadOf, cX12_loadOf, 10, (some .int), 2, 12, 1344, 97) := rfl
theorem mt178 : abMT[178]? = some (yX12_peakBy, cX12_peakBy, 5, (some .int), 2, 12, 1340, 97) := rfl
theorem mt179 : abMT[179]? = some (yX12_leastPeak, cX12_leastPeak, 7, (some .int), 1, 12, 1336, 97) := rfl
theorem mt180 : abMT[180]? = some (yX12_shares, cX12_shares, 4, (some .boolean), 2, 12, 1364, 97) := rfl
theorem mt181 : abMT[181]? = some (yX12_meet, cX12_meet, 4, (some .boolean), 4, 12, 1367, 97) := rfl
theorem mt182 : abMT[182]? = some (yX12_laysRow, cX12_laysRow, 11, (some .int), 2, 12, 1360, 97) := rfl
theorem mt183 : abMT[183]? = some (yX12_nextRow, cX12_nextRow, 8, (some .boolean), 1, 12, 1371, 97) := rfl
theorem mt184 : abMT[184]? = some (yX12_barred, cX12_barred, 3, (some .int), 1, 12, 1356, 97) := rfl
theorem mt185 : abMT[185]? = some (yX12_height, cX12_height, 8, (some .int), 1, 12, 1352, 97) := rfl
theorem mt186 : abMT[186]? = some (yX12_heightAt, cX12_heightAt, 2, (some .int), 1, 12, 1375, 97) := rfl
theorem mt187 : abMT[187]? = some (yX12_lay, cX12_lay, 4, (some .int), 2, 12, 1379, 97) := rfl
theorem mt188 : abMT[188]? = some (yX12_doClash, cX12_doClash, 7, (some .boolean), 2, 12, 1388, 97) := rfl
theorem mt189 : abMT[189]? = some (yX12_clash, cX12_clash, 3, (some .int), 0, 12, 1384, 97) := rfl
theorem mt190 : abMT[190]? = some (yX12_isOut, cX12_isOut, 3, (some .boolean), 2, 12, 1400, 97) := rfl
theorem mt191 : abMT[191]? = some (yX12_timeOut, cX12_timeOut, 5, (some .int), 2, 12, 1396, 97) := rfl
theorem mt192 : abMT[192]? = some (yX12_fits, cX12_fits, 6, (some .boolean), 2, 12, 1404, 97) := rfl
theorem mt193 : abMT[193]? = some (yX12_sendOut, cX12_sendOut, 9, (some .int), 3, 12, 1392, 97) := rfl
theorem mt194 : abMT[194]? = some (yX12_outs, cX12_outs, 1, (some .int), 0, 12, 1408, 97) := rfl
theorem mt195 : abMT[195]? = some (yX12_holds, cX12_holds, 5, none, 0, 12, 1416, 97) := rfl
theorem mt196 : abMT[196]? = some (yX12_pairBy, cX12_pairBy, 5, (some .int), 1, 12, 1420, 97) := rfl
theorem mt197 : abMT[197]? = some (yX12_pair, cX12_pair, 2, (some .int), 1, 12, 1412, 97) := rfl
theorem mt198 : abMT[198]? = some (yX12_bestPhase, cX12_bestPhase, 6, (some .int), 1, 12, 1424, 97) := rfl
theorem mt199 : abMT[199]? = some (yX12_rule, cX12_rule, 3, (some .int), 1, 12, 1428, 97) := rfl
theorem mt200 : abMT[200]? = some (yX12_top, cX12_top, 3, (some .int), 0, 12, 1452, 97) := rfl
theorem mt201 : abMT[201]? = some (yX12_nextAbove, cX12_nextAbove, 4, (some .int), 1, 12, 1444, 97) := rfl
theorem mt202 : abMT[202]? = some (yX12_puts, cX12_puts, 9, none, 1, 12, 1440, 97) := rfl
theorem mt203 : abMT[203]? = some (yX12_endAt, cX12_endAt, 4, (some .int), 1, 12, 1448, 97) := rfl
theorem mt204 : abMT[204]? = some (yX12_goes, cX12_goes, 5, none, 0, 12, 1436, 97) := rfl
theorem mt205 : abMT[205]? = some (yX12_go, cX12_go, 3, (some .int), 1, 12, 1432, 97) := rfl
theorem mt206 : abMT[206]? = some (yX12_compact, cX12_compact, 7, (some .int), 0, 12, 1456, 97) := rfl
theorem mt207 : abMT[207]? = some (yX12_roomTold, cX12_roomTold, 3, (some .int), 2, 12, 1460, 97) := rfl
theorem mt208 : abMT[208]? = some (yX12_holder, cX12_holder, 3, (some .int), 1, 12, 1464, 97) := rfl
theorem mt209 : abMT[209]? = some (yX12_again, cX12_again, 3, (some .int), 0, 12, 1239, 97) := rfl
theorem mt210 : abMT[210]? = some (yX12_image, cX12_image, 2, (some .int), 0, 12, 1469, 97) := rfl
theorem mt211 : abMT[211]? = some (yX12_back, cX12_back, 2, (some .int), 0, 12, 1473, 97) := rfl
theorem mt212 : abMT[212]? = some (yX12_count, cX12_count, 2, (some .int), 1, 12, 1477, 97) := rfl
theorem mt213 : abMT[213]? = some (yX12_sheet, cX12_sheet, 5, (some .int), 3, 12, 1481, 97) := rfl
theorem mt214 : abMT[214]? = some (yX12_cell, cX12_cell, 4, (some .int), 3, 12, 1485, 97) := rfl
theorem mt215 : abMT[215]? = some (yX12_copy, cX12_copy, 10, (some .int), 5, 12, 1489, 97) := rfl
theorem mt216 : abMT[216]? = some (yX12_lays, cX12_lays, 10, (some .int), 4, 12, 1493, 97) := rfl
theorem mt217 : abMT[217]? = some (yX12_isUnder, cX12_isUnder, 2, (some .boolean), 2, 12, 1501, 97) := rfl
theorem mt218 : abMT[218]? = some (yX12_taken, cX12_taken, 4, (some .int), 3, 12, 1498, 97) := rfl
theorem mt219 : abMT[219]? = some (yJ6_bitCount_0f7a4, cJ6_bitCount_0f7a4, 1, (some .int), 1, 14, 839, 99) := rfl
theorem mt220 : abMT[220]? = some (x, code, maxLocals, ret, 1, 13, 0, 0) := rfl
theorem ft_28681 : abFT.lookup 28681 = some (6, 0, 0, 114) := by decide +kernel
theorem ft_28687 : abFT.lookup 28687 = some (6, 1, 0, 115) := by decide +kernel
theorem ft_45144 : abFT.lookup 45144 = some (6, 1, 1, 116) := by decide +kernel
theorem ft_28704 : abFT.lookup 28704 = some (6, 2, 0, 117) := by decide +kernel
theorem ft_28749 : abFT.lookup 28749 = some (6, 3, 0, 118) := by decide +kernel
theorem ft_28691 : abFT.lookup 28691 = some (6, 4, 0, 119) := by decide +kernel
theorem ft_24585 : abFT.lookup 24585 = some (5, 0, 0, 138) := by decide +kernel
theorem ft_45382 : abFT.lookup 45382 = some (5, 0, 1, 139) := by decide +kernel
theorem ft_24591 : abFT.lookup 24591 = some (5, 1, 0, 140) := by decide +kernel
theorem ft_24594 : abFT.lookup 24594 = some (5, 2, 0, 141) := by decide +kernel
theorem ft_24597 : abFT.lookup 24597 = some (5, 3, 0, 142) := by decide +kernel
theorem ft_12347 : abFT.lookup 12347 = some (5, 3, 1, 143) := by decide +kernel
theorem ft_28727 : abFT.lookup 28727 = some (5, 3, 1, 144) := by decide +kernel
theorem ft_41054 : abFT.lookup 41054 = some (5, 3, 1, 145) := by decide +kernel
theorem ft_45227 : abFT.lookup 45227 = some (5, 3, 1, 146) := by decide +kernel
theorem ft_24601 : abFT.lookup 24601 = some (5, 4, 0, 147) := by decide +kernel
theorem ft_84 : abFT.lookup 84 = some (5, 4, 1, 148) := by decide +kernel
theorem ft_12354 : abFT.lookup 12354 = some (5, 4, 1, 149) := by decide +kernel
theorem ft_28780 : abFT.lookup 28780 = some (5, 4, 1, 150) := by decide +kernel
theorem ft_45224 : abFT.lookup 45224 = some (5, 4, 1, 151) := by decide +kernel
theorem ft_24604 : abFT.lookup 24604 = some (5, 5, 0, 152) := by decide +kernel
theorem ft_12344 : abFT.lookup 12344 = some (5, 5, 1, 153) := by decide +kernel
theorem ft_24622 : abFT.lookup 24622 = some (5, 6, 0, 154) := by decide +kernel
theorem ft_16412 : abFT.lookup 16412 = some (5, 6, 1, 155) := by decide +kernel
theorem ft_20508 : abFT.lookup 20508 = some (5, 6, 1, 156) := by decide +kernel
theorem ft_12320 : abFT.lookup 12320 = some (5, 6, 1, 157) := by decide +kernel
theorem ft_45159 : abFT.lookup 45159 = some (5, 6, 1, 158) := by decide +kernel
theorem ft_41038 : abFT.lookup 41038 = some (5, 6, 1, 159) := by decide +kernel
theorem ft_32834 : abFT.lookup 32834 = some (5, 6, 1, 160) := by decide +kernel
theorem ft_28756 : abFT.lookup 28756 = some (5, 6, 1, 161) := by decide +kernel
theorem ft_24607 : abFT.lookup 24607 = some (5, 7, 0, 162) := by decide +kernel
theorem ft_12330 : abFT.lookup 12330 = some (5, 7, 1, 163) := by decide +kernel
theorem ft_45243 : abFT.lookup 45243 = some (5, 7, 1, 164) := by decide +kernel
theorem ft_24610 : abFT.lookup 24610 = some (5, 8, 0, 165) := by decide +kernel
theorem ft_28786 : abFT.lookup 28786 = some (5, 8, 1, 166) := by decide +kernel
theorem ft_24613 : abFT.lookup 24613 = some (5, 9, 0, 167) := by decide +kernel
theorem ft_12333 : abFT.lookup 12333 = some (5, 9, 1, 168) := by decide +kernel
theorem ft_56 : abFT.lookup 56 = some (5, 9, 1, 169) := by decide +kernel
theorem ft_41045 : abFT.lookup 41045 = some (5, 9, 1, 170) := by decide +kernel
theorem ft_45249 : abFT.lookup 45249 = some (5, 9, 1, 171) := by decide +kernel
theorem ft_24616 : abFT.lookup 24616 = some (5, 10, 0, 172) := by decide +kernel
theorem ft_12324 : abFT.lookup 12324 = some (5, 10, 1, 173) := by decide +kernel
theorem ft_41048 : abFT.lookup 41048 = some (5, 10, 1, 174) := by decide +kernel
theorem ft_45240 : abFT.lookup 45240 = some (5, 10, 1, 175) := by decide +kernel
theorem ft_24619 : abFT.lookup 24619 = some (5, 11, 0, 176) := by decide +kernel
theorem ft_12327 : abFT.lookup 12327 = some (5, 11, 1, 177) := by decide +kernel
theorem ft_41051 : abFT.lookup 41051 = some (5, 11, 1, 178) := by decide +kernel
theorem ft_45258 : abFT.lookup 45258 = some (5, 11, 1, 179) := by decide +kernel
theorem ft_12310 : abFT.lookup 12310 = some (2, 0, 0, 222) := by decide +kernel
theorem ft_16406 : abFT.lookup 16406 = some (2, 0, 1, 223) := by decide +kernel
theorem ft_12297 : abFT.lookup 12297 = some (2, 1, 0, 224) := by decide +kernel
theorem ft_40 : abFT.lookup 40 = some (2, 1, 1, 225) := by decide +kernel
theorem ft_32826 : abFT.lookup 32826 = some (2, 1, 1, 226) := by decide +kernel
theorem ft_4168 : abFT.lookup 4168 = some (2, 1, 1, 227) := by decide +kernel
theorem ft_45220 : abFT.lookup 45220 = some (2, 1, 1, 228) := by decide +kernel
theorem ft_12303 : abFT.lookup 12303 = some (2, 2, 0, 229) := by decide +kernel
theorem ft_72 : abFT.lookup 72 = some (2, 2, 1, 230) := by decide +kernel
theorem ft_45252 : abFT.lookup 45252 = some (2, 2, 1, 231) := by decide +kernel
theorem ft_12306 : abFT.lookup 12306 = some (2, 3, 0, 232) := by decide +kernel
theorem ft_45255 : abFT.lookup 45255 = some (2, 3, 1, 233) := by decide +kernel
theorem ft_40972 : abFT.lookup 40972 = some (9, 0, 0, 243) := by decide +kernel
theorem ft_34 : abFT.lookup 34 = some (9, 0, 1, 244) := by decide +kernel
theorem ft_32822 : abFT.lookup 32822 = some (9, 0, 1, 245) := by decide +kernel
theorem ft_4162 : abFT.lookup 4162 = some (9, 0, 1, 246) := by decide +kernel
theorem ft_45216 : abFT.lookup 45216 = some (9, 0, 1, 247) := by decide +kernel
theorem ft_40994 : abFT.lookup 40994 = some (9, 1, 0, 248) := by decide +kernel
theorem ft_20502 : abFT.lookup 20502 = some (9, 1, 1, 249) := by decide +kernel
theorem ft_52 : abFT.lookup 52 = some (9, 1, 1, 250) := by decide +kernel
theorem ft_32830 : abFT.lookup 32830 = some (9, 1, 1, 251) := by decide +kernel
theorem ft_41002 : abFT.lookup 41002 = some (9, 2, 0, 252) := by decide +kernel
theorem ft_45357 : abFT.lookup 45357 = some (9, 2, 1, 253) := by decide +kernel
theorem ft_41010 : abFT.lookup 41010 = some (9, 3, 0, 254) := by decide +kernel
theorem ft_45202 : abFT.lookup 45202 = some (9, 3, 1, 255) := by decide +kernel
theorem ft_40978 : abFT.lookup 40978 = some (9, 4, 0, 256) := by decide +kernel
theorem ft_20514 : abFT.lookup 20514 = some (9, 4, 1, 257) := by decide +kernel
theorem ft_45 : abFT.lookup 45 = some (9, 4, 1, 258) := by decide +kernel
theorem ft_45193 : abFT.lookup 45193 = some (9, 4, 1, 259) := by decide +kernel
theorem ft_40982 : abFT.lookup 40982 = some (9, 5, 0, 260) := by decide +kernel
theorem ft_61 : abFT.lookup 61 = some (9, 5, 1, 261) := by decide +kernel
theorem ft_45199 : abFT.lookup 45199 = some (9, 5, 1, 262) := by decide +kernel
theorem ft_40985 : abFT.lookup 40985 = some (9, 6, 0, 263) := by decide +kernel
theorem ft_20527 : abFT.lookup 20527 = some (9, 6, 1, 264) := by decide +kernel
theorem ft_32839 : abFT.lookup 32839 = some (9, 6, 1, 265) := by decide +kernel
theorem ft_45196 : abFT.lookup 45196 = some (9, 6, 1, 266) := by decide +kernel
theorem ft_40988 : abFT.lookup 40988 = some (9, 7, 0, 267) := by decide +kernel
theorem ft_45231 : abFT.lookup 45231 = some (9, 7, 1, 268) := by decide +kernel
theorem ft_40991 : abFT.lookup 40991 = some (9, 8, 0, 269) := by decide +kernel
theorem ft_81 : abFT.lookup 81 = some (9, 8, 1, 270) := by decide +kernel
theorem ft_45234 : abFT.lookup 45234 = some (9, 8, 1, 271) := by decide +kernel
theorem ft_16402 : abFT.lookup 16402 = some (3, 0, 0, 297) := by decide +kernel
theorem ft_45391 : abFT.lookup 45391 = some (3, 0, 1, 298) := by decide +kernel
theorem ft_16418 : abFT.lookup 16418 = some (3, 1, 0, 299) := by decide +kernel
theorem ft_45265 : abFT.lookup 45265 = some (3, 1, 1, 300) := by decide +kernel
theorem ft_16393 : abFT.lookup 16393 = some (3, 2, 0, 301) := by decide +kernel
theorem ft_45268 : abFT.lookup 45268 = some (3, 2, 1, 302) := by decide +kernel
theorem ft_16399 : abFT.lookup 16399 = some (3, 3, 0, 303) := by decide +kernel
theorem ft_45271 : abFT.lookup 45271 = some (3, 3, 1, 304) := by decide +kernel
theorem ft_4114 : abFT.lookup 4114 = some (1, 0, 0, 320) := by decide +kernel
theorem ft_4118 : abFT.lookup 4118 = some (1, 1, 0, 321) := by decide +kernel
theorem ft_4132 : abFT.lookup 4132 = some (1, 2, 0, 322) := by decide +kernel
theorem ft_4105 : abFT.lookup 4105 = some (1, 3, 0, 323) := by decide +kernel
theorem ft_4128 : abFT.lookup 4128 = some (1, 4, 0, 324) := by decide +kernel
theorem ft_45278 : abFT.lookup 45278 = some (1, 4, 1, 325) := by decide +kernel
theorem ft_4111 : abFT.lookup 4111 = some (1, 5, 0, 326) := by decide +kernel
theorem ft_45281 : abFT.lookup 45281 = some (1, 5, 1, 327) := by decide +kernel
theorem ft_32805 : abFT.lookup 32805 = some (7, 0, 0, 347) := by decide +kernel
theorem ft_45298 : abFT.lookup 45298 = some (7, 0, 1, 348) := by decide +kernel
theorem ft_32777 : abFT.lookup 32777 = some (7, 1, 0, 349) := by decide +kernel
theorem ft_32783 : abFT.lookup 32783 = some (7, 2, 0, 350) := by decide +kernel
theorem ft_20498 : abFT.lookup 20498 = some (4, 0, 0, 364) := by decide +kernel
theorem ft_20489 : abFT.lookup 20489 = some (4, 1, 0, 365) := by decide +kernel
theorem ft_20495 : abFT.lookup 20495 = some (4, 2, 0, 366) := by decide +kernel
theorem ft_18 : abFT.lookup 18 = some (0, 0, 0, 380) := by decide +kernel
theorem ft_45162 : abFT.lookup 45162 = some (0, 0, 1, 381) := by decide +kernel
theorem ft_22 : abFT.lookup 22 = some (0, 1, 0, 382) := by decide +kernel
theorem ft_45320 : abFT.lookup 45320 = some (0, 1, 1, 383) := by decide +kernel
theorem ft_25 : abFT.lookup 25 = some (0, 2, 0, 384) := by decide +kernel
theorem ft_45310 : abFT.lookup 45310 = some (0, 2, 1, 385) := by decide +kernel
theorem ft_9 : abFT.lookup 9 = some (0, 3, 0, 386) := by decide +kernel
theorem ft_45326 : abFT.lookup 45326 = some (0, 3, 1, 387) := by decide +kernel
theorem ft_15 : abFT.lookup 15 = some (0, 4, 0, 388) := by decide +kernel
theorem ft_45165 : abFT.lookup 45165 = some (0, 4, 1, 389) := by decide +kernel
theorem ft_36873 : abFT.lookup 36873 = some (8, 0, 0, 408) := by decide +kernel
theorem ft_45175 : abFT.lookup 45175 = some (8, 0, 1, 409) := by decide +kernel
theorem ft_36883 : abFT.lookup 36883 = some (8, 1, 0, 410) := by decide +kernel
theorem ft_4122 : abFT.lookup 4122 = some (8, 1, 1, 411) := by decide +kernel
theorem ft_32787 : abFT.lookup 32787 = some (8, 1, 1, 412) := by decide +kernel
theorem ft_41019 : abFT.lookup 41019 = some (8, 1, 1, 413) := by decide +kernel
theorem ft_45178 : abFT.lookup 45178 = some (8, 1, 1, 414) := by decide +kernel
theorem ft_36879 : abFT.lookup 36879 = some (8, 2, 0, 415) := by decide +kernel
theorem ft_41025 : abFT.lookup 41025 = some (8, 2, 1, 416) := by decide +kernel
theorem ft_32808 : abFT.lookup 32808 = some (8, 2, 1, 417) := by decide +kernel
theorem ft_4172 : abFT.lookup 4172 = some (8, 2, 1, 418) := by decide +kernel
theorem ft_45373 : abFT.lookup 45373 = some (8, 2, 1, 419) := by decide +kernel
theorem ft_45066 : abFT.lookup 45066 = some (10, 0, 0, 508) := by decide +kernel
theorem ft_45075 : abFT.lookup 45075 = some (10, 1, 0, 509) := by decide +kernel
theorem ft_45079 : abFT.lookup 45079 = some (10, 2, 0, 510) := by decide +kernel
theorem ft_45088 : abFT.lookup 45088 = some (10, 3, 0, 511) := by decide +kernel
theorem ft_45095 : abFT.lookup 45095 = some (10, 4, 0, 512) := by decide +kernel
theorem ft_45102 : abFT.lookup 45102 = some (10, 5, 0, 513) := by decide +kernel
theorem ft_45106 : abFT.lookup 45106 = some (10, 6, 0, 514) := by decide +kernel
theorem ft_45113 : abFT.lookup 45113 = some (10, 7, 0, 515) := by decide +kernel
theorem ft_45120 : abFT.lookup 45120 = some (10, 8, 0, 516) := by decide +kernel
theorem ft_45127 : abFT.lookup 45127 = some (10, 9, 0, 517) := by decide +kernel
theorem ft_45131 : abFT.lookup 45131 = some (10, 10, 0, 518) := by decide +kernel
theorem ft_45340 : abFT.lookup 45340 = some (10, 11, 0, 519) := by decide +kernel
theorem ft_45136 : abFT.lookup 45136 = some (10, 12, 0, 520) := by decide +kernel
theorem ft_45156 : abFT.lookup 45156 = some (10, 13, 0, 521) := by decide +kernel
theorem ft_49159 : abFT.lookup 49159 = some (11, 0, 0, 1021) := by decide +kernel
theorem ft_49281 : abFT.lookup 49281 = some (11, 1, 0, 1022) := by decide +kernel
theorem ft_49329 : abFT.lookup 49329 = some (11, 2, 0, 1023) := by decide +kernel
theorem ft_49165 : abFT.lookup 49165 = some (11, 3, 0, 1024) := by decide +kernel
theorem ft_49317 : abFT.lookup 49317 = some (11, 4, 0, 1025) := by decide +kernel
theorem ft_49168 : abFT.lookup 49168 = some (11, 5, 0, 1026) := by decide +kernel
theorem ft_49172 : abFT.lookup 49172 = some (11, 6, 0, 1027) := by decide +kernel
theorem ft_49175 : abFT.lookup 49175 = some (11, 7, 0, 1028) := by decide +kernel
theorem ft_49178 : abFT.lookup 49178 = some (11, 8, 0, 1029) := by decide +kernel
theorem ft_49181 : abFT.lookup 49181 = some (11, 9, 0, 1030) := by decide +kernel
theorem ft_49184 : abFT.lookup 49184 = some (11, 10, 0, 1031) := by decide +kernel
theorem ft_49187 : abFT.lookup 49187 = some (11, 11, 0, 1032) := by decide +kernel
theorem ft_49190 : abFT.lookup 49190 = some (11, 12, 0, 1033) := by decide +kernel
theorem ft_49193 : abFT.lookup 49193 = some (11, 13, 0, 1034) := by decide +kernel
theorem ft_49196 : abFT.lookup 49196 = some (11, 14, 0, 1035) := by decide +kernel
theorem ft_49301 : abFT.lookup 49301 = some (11, 15, 0, 1036) := by decide +kernel
theorem ft_49199 : abFT.lookup 49199 = some (11, 16, 0, 1037) := by decide +kernel
theorem ft_49202 : abFT.lookup 49202 = some (11, 17, 0, 1038) := by decide +kernel
theorem ft_49205 : abFT.lookup 49205 = some (11, 18, 0, 1039) := by decide +kernel
theorem ft_49208 : abFT.lookup 49208 = some (11, 19, 0, 1040) := by decide +kernel
theorem ft_49211 : abFT.lookup 49211 = some (11, 20, 0, 1041) := by decide +kernel
theorem ft_49214 : abFT.lookup 49214 = some (11, 21, 0, 1042) := by decide +kernel
theorem ft_49217 : abFT.lookup 49217 = some (11, 22, 0, 1043) := by decide +kernel
theorem ft_49220 : abFT.lookup 49220 = some (11, 23, 0, 1044) := by decide +kernel
theorem ft_49223 : abFT.lookup 49223 = some (11, 24, 0, 1045) := by decide +kernel
theorem ft_49226 : abFT.lookup 49226 = some (11, 25, 0, 1046) := by decide +kernel
theorem ft_49332 : abFT.lookup 49332 = some (11, 26, 0, 1047) := by decide +kernel
theorem ft_49229 : abFT.lookup 49229 = some (11, 27, 0, 1048) := by decide +kernel
theorem ft_49232 : abFT.lookup 49232 = some (11, 28, 0, 1049) := by decide +kernel
theorem ft_49436 : abFT.lookup 49436 = some (11, 29, 0, 1050) := by decide +kernel
theorem ft_49420 : abFT.lookup 49420 = some (11, 30, 0, 1051) := by decide +kernel
theorem ft_49235 : abFT.lookup 49235 = some (11, 31, 0, 1052) := by decide +kernel
theorem ft_49342 : abFT.lookup 49342 = some (11, 32, 0, 1053) := by decide +kernel
theorem ft_49463 : abFT.lookup 49463 = some (11, 33, 0, 1054) := by decide +kernel
theorem ft_49448 : abFT.lookup 49448 = some (11, 34, 0, 1055) := by decide +kernel
theorem ft_49238 : abFT.lookup 49238 = some (11, 35, 0, 1056) := by decide +kernel
theorem ft_49336 : abFT.lookup 49336 = some (11, 36, 0, 1057) := by decide +kernel
theorem ft_49469 : abFT.lookup 49469 = some (11, 37, 0, 1058) := by decide +kernel
theorem ft_49472 : abFT.lookup 49472 = some (11, 38, 0, 1059) := by decide +kernel
theorem ft_49475 : abFT.lookup 49475 = some (11, 39, 0, 1060) := by decide +kernel
theorem ft_49241 : abFT.lookup 49241 = some (11, 40, 0, 1061) := by decide +kernel
theorem ft_49244 : abFT.lookup 49244 = some (11, 41, 0, 1062) := by decide +kernel
theorem ft_49247 : abFT.lookup 49247 = some (11, 42, 0, 1063) := by decide +kernel
theorem ft_49250 : abFT.lookup 49250 = some (11, 43, 0, 1064) := by decide +kernel
theorem ft_49253 : abFT.lookup 49253 = some (11, 44, 0, 1065) := by decide +kernel
theorem ft_49287 : abFT.lookup 49287 = some (11, 45, 0, 1066) := by decide +kernel
theorem ft_49256 : abFT.lookup 49256 = some (11, 46, 0, 1067) := by decide +kernel
theorem ft_49259 : abFT.lookup 49259 = some (11, 47, 0, 1068) := by decide +kernel
theorem ft_49262 : abFT.lookup 49262 = some (11, 48, 0, 1069) := by decide +kernel
theorem ft_49265 : abFT.lookup 49265 = some (11, 49, 0, 1070) := by decide +kernel
theorem ft_49268 : abFT.lookup 49268 = some (11, 50, 0, 1071) := by decide +kernel
theorem ft_49271 : abFT.lookup 49271 = some (11, 51, 0, 1072) := by decide +kernel
theorem ft_49274 : abFT.lookup 49274 = some (11, 52, 0, 1073) := by decide +kernel
theorem ft_49439 : abFT.lookup 49439 = some (11, 53, 0, 1074) := by decide +kernel
theorem fk_28681 : abKd 6 0 = 2 := by decide
theorem fp_28681 : abKd 6 0 = 2 := by decide
theorem fk_28687 : abKd 6 1 ≠ 2 := by decide
theorem fp_28687 : abKd 6 1 = 0 := by decide
theorem fn_28687 : ¬ abFin 6 1 = true := by decide
theorem fk_45144 : abKd 6 1 ≠ 2 := by decide
theorem fp_45144 : abKd 6 1 = 0 := by decide
theorem fn_45144 : ¬ abFin 6 1 = true := by decide
theorem fk_28704 : abKd 6 2 ≠ 2 := by decide
theorem fp_28704 : abKd 6 2 = 0 := by decide
theorem fn_28704 : ¬ abFin 6 2 = true := by decide
theorem fk_28749 : abKd 6 3 ≠ 2 := by decide
theorem fp_28749 : abKd 6 3 = 0 := by decide
theorem fn_28749 : ¬ abFin 6 3 = true := by decide
theorem fk_28691 : abKd 6 4 = 2 := by decide
theorem fp_28691 : abKd 6 4 = 2 := by decide
theorem fn_28691 : ¬ abFin 6 4 = true := by decide
theorem fk_24585 : abKd 5 0 = 2 := by decide
theorem fp_24585 : abKd 5 0 = 2 := by decide
theorem fk_45382 : abKd 5 0 = 2 := by decide
theorem fp_45382 : abKd 5 0 = 2 := by decide
theorem fk_24591 : abKd 5 1 = 2 := by decide
theorem fp_24591 : abKd 5 1 = 2 := by decide
theorem fk_24594 : abKd 5 2 = 2 := by decide
theorem fp_24594 : abKd 5 2 = 2 := by decide
theorem fk_24597 : abKd 5 3 = 2 := by decide
theorem fp_24597 : abKd 5 3 = 2 := by decide
theorem fk_12347 : abKd 5 3 = 2 := by decide
theorem fp_12347 : abKd 5 3 = 2 := by decide
theorem fk_28727 : abKd 5 3 = 2 := by decide
theorem fp_28727 : abKd 5 3 = 2 := by decide
theorem fk_41054 : abKd 5 3 = 2 := by decide
theorem fp_41054 : abKd 5 3 = 2 := by decide
theorem fk_45227 : abKd 5 3 = 2 := by decide
theorem fp_45227 : abKd 5 3 = 2 := by decide
theorem fk_24601 : abKd 5 4 = 2 := by decide
theorem fp_24601 : abKd 5 4 = 2 := by decide
theorem fk_84 : abKd 5 4 = 2 := by decide
theorem fp_84 : abKd 5 4 = 2 := by decide
theorem fk_12354 : abKd 5 4 = 2 := by decide
theorem fp_12354 : abKd 5 4 = 2 := by decide
theorem fk_28780 : abKd 5 4 = 2 := by decide
theorem fp_28780 : abKd 5 4 = 2 := by decide
theorem fk_45224 : abKd 5 4 = 2 := by decide
theorem fp_45224 : abKd 5 4 = 2 := by decide
theorem fk_24604 : abKd 5 5 = 2 := by decide
theorem fp_24604 : abKd 5 5 = 2 := by decide
theorem fk_12344 : abKd 5 5 = 2 := by decide
theorem fp_12344 : abKd 5 5 = 2 := by decide
theorem fk_24622 : abKd 5 6 ≠ 2 := by decide
theorem fp_24622 : abKd 5 6 = 0 := by decide
theorem fn_24622 : ¬ abFin 5 6 = true := by decide
theorem fk_16412 : abKd 5 6 ≠ 2 := by decide
theorem fp_16412 : abKd 5 6 = 0 := by decide
theorem fn_16412 : ¬ abFin 5 6 = true := by decide
theorem fk_20508 : abKd 5 6 ≠ 2 := by decide
theorem fp_20508 : abKd 5 6 = 0 := by decide
theorem fn_20508 : ¬ abFin 5 6 = true := by decide
theorem fk_12320 : abKd 5 6 ≠ 2 := by decide
theorem fp_12320 : abKd 5 6 = 0 := by decide
theorem fn_12320 : ¬ abFin 5 6 = true := by decide
theorem fk_45159 : abKd 5 6 ≠ 2 := by decide
theorem fp_45159 : abKd 5 6 = 0 := by decide
theorem fn_45159 : ¬ abFin 5 6 = true := by decide
theorem fk_41038 : abKd 5 6 ≠ 2 := by decide
theorem fp_41038 : abKd 5 6 = 0 := by decide
theorem fn_41038 : ¬ abFin 5 6 = true := by decide
theorem fk_32834 : abKd 5 6 ≠ 2 := by decide
theorem fp_32834 : abKd 5 6 = 0 := by decide
theorem fn_32834 : ¬ abFin 5 6 = true := by decide
theorem fk_28756 : abKd 5 6 ≠ 2 := by decide
theorem fp_28756 : abKd 5 6 = 0 := by decide
theorem fn_28756 : ¬ abFin 5 6 = true := by decide
theorem fk_24607 : abKd 5 7 = 2 := by decide
theorem fp_24607 : abKd 5 7 = 2 := by decide
theorem fk_12330 : abKd 5 7 = 2 := by decide
theorem fp_12330 : abKd 5 7 = 2 := by decide
theorem fk_45243 : abKd 5 7 = 2 := by decide
theorem fp_45243 : abKd 5 7 = 2 := by decide
theorem fk_24610 : abKd 5 8 = 2 := by decide
theorem fp_24610 : abKd 5 8 = 2 := by decide
theorem fk_28786 : abKd 5 8 = 2 := by decide
theorem fp_28786 : abKd 5 8 = 2 := by decide
theorem fk_24613 : abKd 5 9 = 2 := by decide
theorem fp_24613 : abKd 5 9 = 2 := by decide
theorem fk_12333 : abKd 5 9 = 2 := by decide
theorem fp_12333 : abKd 5 9 = 2 := by decide
theorem fk_56 : abKd 5 9 = 2 := by decide
theorem fp_56 : abKd 5 9 = 2 := by decide
theorem fk_41045 : abKd 5 9 = 2 := by decide
theorem fp_41045 : abKd 5 9 = 2 := by decide
theorem fk_45249 : abKd 5 9 = 2 := by decide
theorem fp_45249 : abKd 5 9 = 2 := by decide
theorem fk_24616 : abKd 5 10 = 2 := by decide
theorem fp_24616 : abKd 5 10 = 2 := by decide
theorem fk_12324 : abKd 5 10 = 2 := by decide
theorem fp_12324 : abKd 5 10 = 2 := by decide
theorem fk_41048 : abKd 5 10 = 2 := by decide
theorem fp_41048 : abKd 5 10 = 2 := by decide
theorem fk_45240 : abKd 5 10 = 2 := by decide
theorem fp_45240 : abKd 5 10 = 2 := by decide
theorem fk_24619 : abKd 5 11 = 2 := by decide
theorem fp_24619 : abKd 5 11 = 2 := by decide
theorem fk_12327 : abKd 5 11 = 2 := by decide
theorem fp_12327 : abKd 5 11 = 2 := by decide
theorem fk_41051 : abKd 5 11 = 2 := by decide
theorem fp_41051 : abKd 5 11 = 2 := by decide
theorem fk_45258 : abKd 5 11 = 2 := by decide
theorem fp_45258 : abKd 5 11 = 2 := by decide
theorem fk_12310 : abKd 2 0 = 2 := by decide
theorem fp_12310 : abKd 2 0 = 2 := by decide
theorem fn_12310 : ¬ abFin 2 0 = true := by decide
theorem fk_16406 : abKd 2 0 = 2 := by decide
theorem fp_16406 : abKd 2 0 = 2 := by decide
theorem fn_16406 : ¬ abFin 2 0 = true := by decide
theorem fk_12297 : abKd 2 1 = 2 := by decide
theorem fp_12297 : abKd 2 1 = 2 := by decide
theorem fk_40 : abKd 2 1 = 2 := by decide
theorem fp_40 : abKd 2 1 = 2 := by decide
theorem fk_32826 : abKd 2 1 = 2 := by decide
theorem fp_32826 : abKd 2 1 = 2 := by decide
theorem fk_4168 : abKd 2 1 = 2 := by decide
theorem fp_4168 : abKd 2 1 = 2 := by decide
theorem fk_45220 : abKd 2 1 = 2 := by decide
theorem fp_45220 : abKd 2 1 = 2 := by decide
theorem fk_12303 : abKd 2 2 = 2 := by decide
theorem fp_12303 : abKd 2 2 = 2 := by decide
theorem fk_72 : abKd 2 2 = 2 := by decide
theorem fp_72 : abKd 2 2 = 2 := by decide
theorem fk_45252 : abKd 2 2 = 2 := by decide
theorem fp_45252 : abKd 2 2 = 2 := by decide
theorem fk_12306 : abKd 2 3 = 2 := by decide
theorem fp_12306 : abKd 2 3 = 2 := by decide
theorem fk_45255 : abKd 2 3 = 2 := by decide
theorem fp_45255 : abKd 2 3 = 2 := by decide
theorem fk_40972 : abKd 9 0 = 2 := by decide
theorem fp_40972 : abKd 9 0 = 2 := by decide
theorem fk_34 : abKd 9 0 = 2 := by decide
theorem fp_34 : abKd 9 0 = 2 := by decide
theorem fk_32822 : abKd 9 0 = 2 := by decide
theorem fp_32822 : abKd 9 0 = 2 := by decide
theorem fk_4162 : abKd 9 0 = 2 := by decide
theorem fp_4162 : abKd 9 0 = 2 := by decide
theorem fk_45216 : abKd 9 0 = 2 := by decide
theorem fp_45216 : abKd 9 0 = 2 := by decide
theorem fk_40994 : abKd 9 1 = 2 := by decide
theorem fp_40994 : abKd 9 1 = 2 := by decide
theorem fn_40994 : ¬ abFin 9 1 = true := by decide
theorem fk_20502 : abKd 9 1 = 2 := by decide
theorem fp_20502 : abKd 9 1 = 2 := by decide
theorem fn_20502 : ¬ abFin 9 1 = true := by decide
theorem fk_52 : abKd 9 1 = 2 := by decide
theorem fp_52 : abKd 9 1 = 2 := by decide
theorem fn_52 : ¬ abFin 9 1 = true := by decide
theorem fk_32830 : abKd 9 1 = 2 := by decide
theorem fp_32830 : abKd 9 1 = 2 := by decide
theorem fn_32830 : ¬ abFin 9 1 = true := by decide
theorem fk_41002 : abKd 9 2 ≠ 2 := by decide
theorem fp_41002 : abKd 9 2 = 1 := by decide
theorem fn_41002 : ¬ abFin 9 2 = true := by decide
theorem fk_45357 : abKd 9 2 ≠ 2 := by decide
theorem fp_45357 : abKd 9 2 = 1 := by decide
theorem fn_45357 : ¬ abFin 9 2 = true := by decide
theorem fk_41010 : abKd 9 3 ≠ 2 := by decide
theorem fp_41010 : abKd 9 3 = 1 := by decide
theorem fn_41010 : ¬ abFin 9 3 = true := by decide
theorem fk_45202 : abKd 9 3 ≠ 2 := by decide
theorem fp_45202 : abKd 9 3 = 1 := by decide
theorem fn_45202 : ¬ abFin 9 3 = true := by decide
theorem fk_40978 : abKd 9 4 = 2 := by decide
theorem fp_40978 : abKd 9 4 = 2 := by decide
theorem fk_20514 : abKd 9 4 = 2 := by decide
theorem fp_20514 : abKd 9 4 = 2 := by decide
theorem fk_45 : abKd 9 4 = 2 := by decide
theorem fp_45 : abKd 9 4 = 2 := by decide
theorem fk_45193 : abKd 9 4 = 2 := by decide
theorem fp_45193 : abKd 9 4 = 2 := by decide
theorem fk_40982 : abKd 9 5 = 2 := by decide
theorem fp_40982 : abKd 9 5 = 2 := by decide
theorem fk_61 : abKd 9 5 = 2 := by decide
theorem fp_61 : abKd 9 5 = 2 := by decide
theorem fk_45199 : abKd 9 5 = 2 := by decide
theorem fp_45199 : abKd 9 5 = 2 := by decide
theorem fk_40985 : abKd 9 6 = 2 := by decide
theorem fp_40985 : abKd 9 6 = 2 := by decide
theorem fk_20527 : abKd 9 6 = 2 := by decide
theorem fp_20527 : abKd 9 6 = 2 := by decide
theorem fk_32839 : abKd 9 6 = 2 := by decide
theorem fp_32839 : abKd 9 6 = 2 := by decide
theorem fk_45196 : abKd 9 6 = 2 := by decide
theorem fp_45196 : abKd 9 6 = 2 := by decide
theorem fk_40988 : abKd 9 7 = 2 := by decide
theorem fp_40988 : abKd 9 7 = 2 := by decide
theorem fk_45231 : abKd 9 7 = 2 := by decide
theorem fp_45231 : abKd 9 7 = 2 := by decide
theorem fk_40991 : abKd 9 8 = 2 := by decide
theorem fp_40991 : abKd 9 8 = 2 := by decide
theorem fk_81 : abKd 9 8 = 2 := by decide
theorem fp_81 : abKd 9 8 = 2 := by decide
theorem fk_45234 : abKd 9 8 = 2 := by decide
theorem fp_45234 : abKd 9 8 = 2 := by decide
theorem fk_16402 : abKd 3 0 ≠ 2 := by decide
theorem fp_16402 : abKd 3 0 = 1 := by decide
theorem fn_16402 : ¬ abFin 3 0 = true := by decide
theorem fk_45391 : abKd 3 0 ≠ 2 := by decide
theorem fp_45391 : abKd 3 0 = 1 := by decide
theorem fn_45391 : ¬ abFin 3 0 = true := by decide
theorem fk_16418 : abKd 3 1 ≠ 2 := by decide
theorem fp_16418 : abKd 3 1 = 0 := by decide
theorem fn_16418 : ¬ abFin 3 1 = true := by decide
theorem fk_45265 : abKd 3 1 ≠ 2 := by decide
theorem fp_45265 : abKd 3 1 = 0 := by decide
theorem fn_45265 : ¬ abFin 3 1 = true := by decide
theorem fk_16393 : abKd 3 2 = 2 := by decide
theorem fp_16393 : abKd 3 2 = 2 := by decide
theorem fk_45268 : abKd 3 2 = 2 := by decide
theorem fp_45268 : abKd 3 2 = 2 := by decide
theorem fk_16399 : abKd 3 3 = 2 := by decide
theorem fp_16399 : abKd 3 3 = 2 := by decide
theorem fk_45271 : abKd 3 3 = 2 := by decide
theorem fp_45271 : abKd 3 3 = 2 := by decide
theorem fk_4114 : abKd 1 0 = 2 := by decide
theorem fp_4114 : abKd 1 0 = 2 := by decide
theorem fn_4114 : ¬ abFin 1 0 = true := by decide
theorem fk_4118 : abKd 1 1 = 2 := by decide
theorem fp_4118 : abKd 1 1 = 2 := by decide
theorem fn_4118 : ¬ abFin 1 1 = true := by decide
theorem fk_4132 : abKd 1 2 ≠ 2 := by decide
theorem fp_4132 : abKd 1 2 = 0 := by decide
theorem fn_4132 : ¬ abFin 1 2 = true := by decide
theorem fk_4105 : abKd 1 3 = 2 := by decide
theorem fp_4105 : abKd 1 3 = 2 := by decide
theorem fk_4128 : abKd 1 4 ≠ 2 := by decide
theorem fp_4128 : abKd 1 4 = 0 := by decide
theorem fn_4128 : ¬ abFin 1 4 = true := by decide
theorem fk_45278 : abKd 1 4 ≠ 2 := by decide
theorem fp_45278 : abKd 1 4 = 0 := by decide
theorem fn_45278 : ¬ abFin 1 4 = true := by decide
theorem fk_4111 : abKd 1 5 = 2 := by decide
theorem fp_4111 : abKd 1 5 = 2 := by decide
theorem fk_45281 : abKd 1 5 = 2 := by decide
theorem fp_45281 : abKd 1 5 = 2 := by decide
theorem fk_32805 : abKd 7 0 ≠ 2 := by decide
theorem fp_32805 : abKd 7 0 = 0 := by decide
theorem fn_32805 : ¬ abFin 7 0 = true := by decide
theorem fk_45298 : abKd 7 0 ≠ 2 := by decide
theorem fp_45298 : abKd 7 0 = 0 := by decide
theorem fn_45298 : ¬ abFin 7 0 = true := by decide
theorem fk_32777 : abKd 7 1 = 2 := by decide
theorem fp_32777 : abKd 7 1 = 2 := by decide
theorem fn_32777 : ¬ abFin 7 1 = true := by decide
theorem fk_32783 : abKd 7 2 = 2 := by decide
theorem fp_32783 : abKd 7 2 = 2 := by decide
theorem fn_32783 : ¬ abFin 7 2 = true := by decide
theorem fk_20498 : abKd 4 0 = 2 := by decide
theorem fp_20498 : abKd 4 0 = 2 := by decide
theorem fn_20498 : ¬ abFin 4 0 = true := by decide
theorem fk_20489 : abKd 4 1 = 2 := by decide
theorem fp_20489 : abKd 4 1 = 2 := by decide
theorem fk_20495 : abKd 4 2 = 2 := by decide
theorem fp_20495 : abKd 4 2 = 2 := by decide
theorem fk_18 : abKd 0 0 ≠ 2 := by decide
theorem fp_18 : abKd 0 0 = 0 := by decide
theorem fn_18 : ¬ abFin 0 0 = true := by decide
theorem fk_45162 : abKd 0 0 ≠ 2 := by decide
theorem fp_45162 : abKd 0 0 = 0 := by decide
theorem fn_45162 : ¬ abFin 0 0 = true := by decide
theorem fk_22 : abKd 0 1 ≠ 2 := by decide
theorem fp_22 : abKd 0 1 = 0 := by decide
theorem fn_22 : ¬ abFin 0 1 = true := by decide
theorem fk_45320 : abKd 0 1 ≠ 2 := by decide
theorem fp_45320 : abKd 0 1 = 0 := by decide
theorem fn_45320 : ¬ abFin 0 1 = true := by decide
theorem fk_25 : abKd 0 2 ≠ 2 := by decide
theorem fp_25 : abKd 0 2 = 0 := by decide
theorem fn_25 : ¬ abFin 0 2 = true := by decide
theorem fk_45310 : abKd 0 2 ≠ 2 := by decide
theorem fp_45310 : abKd 0 2 = 0 := by decide
theorem fn_45310 : ¬ abFin 0 2 = true := by decide
theorem fk_9 : abKd 0 3 = 2 := by decide
theorem fp_9 : abKd 0 3 = 2 := by decide
theorem fk_45326 : abKd 0 3 = 2 := by decide
theorem fp_45326 : abKd 0 3 = 2 := by decide
theorem fk_15 : abKd 0 4 = 2 := by decide
theorem fp_15 : abKd 0 4 = 2 := by decide
theorem fk_45165 : abKd 0 4 = 2 := by decide
theorem fp_45165 : abKd 0 4 = 2 := by decide
theorem fk_36873 : abKd 8 0 ≠ 2 := by decide
theorem fp_36873 : abKd 8 0 = 0 := by decide
theorem fn_36873 : ¬ abFin 8 0 = true := by decide
theorem fk_45175 : abKd 8 0 ≠ 2 := by decide
theorem fp_45175 : abKd 8 0 = 0 := by decide
theorem fn_45175 : ¬ abFin 8 0 = true := by decide
theorem fk_36883 : abKd 8 1 ≠ 2 := by decide
theorem fp_36883 : abKd 8 1 = 0 := by decide
theorem fn_36883 : ¬ abFin 8 1 = true := by decide
theorem fk_4122 : abKd 8 1 ≠ 2 := by decide
theorem fp_4122 : abKd 8 1 = 0 := by decide
theorem fn_4122 : ¬ abFin 8 1 = true := by decide
theorem fk_32787 : abKd 8 1 ≠ 2 := by decide
theorem fp_32787 : abKd 8 1 = 0 := by decide
theorem fn_32787 : ¬ abFin 8 1 = true := by decide
theorem fk_41019 : abKd 8 1 ≠ 2 := by decide
theorem fp_41019 : abKd 8 1 = 0 := by decide
theorem fn_41019 : ¬ abFin 8 1 = true := by decide
theorem fk_45178 : abKd 8 1 ≠ 2 := by decide
theorem fp_45178 : abKd 8 1 = 0 := by decide
theorem fn_45178 : ¬ abFin 8 1 = true := by decide
theorem fk_36879 : abKd 8 2 = 2 := by decide
theorem fp_36879 : abKd 8 2 = 2 := by decide
theorem fk_41025 : abKd 8 2 = 2 := by decide
theorem fp_41025 : abKd 8 2 = 2 := by decide
theorem fk_32808 : abKd 8 2 = 2 := by decide
theorem fp_32808 : abKd 8 2 = 2 := by decide
theorem fk_4172 : abKd 8 2 = 2 := by decide
theorem fp_4172 : abKd 8 2 = 2 := by decide
theorem fk_45373 : abKd 8 2 = 2 := by decide
theorem fp_45373 : abKd 8 2 = 2 := by decide
theorem fk_45066 : abKd 10 0 = 2 := by decide
theorem fp_45066 : abKd 10 0 = 2 := by decide
theorem fk_45075 : abKd 10 1 = 2 := by decide
theorem fp_45075 : abKd 10 1 = 2 := by decide
theorem fn_45075 : ¬ abFin 10 1 = true := by decide
theorem fk_45079 : abKd 10 2 = 2 := by decide
theorem fp_45079 : abKd 10 2 = 2 := by decide
theorem fn_45079 : ¬ abFin 10 2 = true := by decide
theorem fk_45088 : abKd 10 3 = 2 := by decide
theorem fp_45088 : abKd 10 3 = 2 := by decide
theorem fk_45095 : abKd 10 4 = 2 := by decide
theorem fp_45095 : abKd 10 4 = 2 := by decide
theorem fk_45102 : abKd 10 5 = 2 := by decide
theorem fp_45102 : abKd 10 5 = 2 := by decide
theorem fk_45106 : abKd 10 6 = 2 := by decide
theorem fp_45106 : abKd 10 6 = 2 := by decide
theorem fk_45113 : abKd 10 7 = 2 := by decide
theorem fp_45113 : abKd 10 7 = 2 := by decide
theorem fk_45120 : abKd 10 8 = 2 := by decide
theorem fp_45120 : abKd 10 8 = 2 := by decide
theorem fk_45127 : abKd 10 9 = 2 := by decide
theorem fp_45127 : abKd 10 9 = 2 := by decide
theorem fk_45131 : abKd 10 10 = 2 := by decide
theorem fp_45131 : abKd 10 10 = 2 := by decide
theorem fk_45340 : abKd 10 11 ≠ 2 := by decide
theorem fp_45340 : abKd 10 11 = 1 := by decide
theorem fn_45340 : ¬ abFin 10 11 = true := by decide
theorem fk_45136 : abKd 10 12 = 2 := by decide
theorem fp_45136 : abKd 10 12 = 2 := by decide
theorem fk_45156 : abKd 10 13 ≠ 2 := by decide
theorem fp_45156 : abKd 10 13 = 0 := by decide
theorem fn_45156 : ¬ abFin 10 13 = true := by decide
theorem fk_49159 : abKd 11 0 = 2 := by decide
theorem fp_49159 : abKd 11 0 = 2 := by decide
theorem fk_49281 : abKd 11 1 ≠ 2 := by decide
theorem fp_49281 : abKd 11 1 = 0 := by decide
theorem fn_49281 : ¬ abFin 11 1 = true := by decide
theorem fk_49329 : abKd 11 2 ≠ 2 := by decide
theorem fp_49329 : abKd 11 2 = 0 := by decide
theorem fn_49329 : ¬ abFin 11 2 = true := by decide
theorem fk_49165 : abKd 11 3 = 2 := by decide
theorem fp_49165 : abKd 11 3 = 2 := by decide
theorem fk_49317 : abKd 11 4 ≠ 2 := by decide
theorem fp_49317 : abKd 11 4 = 0 := by decide
theorem fn_49317 : ¬ abFin 11 4 = true := by decide
theorem fk_49168 : abKd 11 5 = 2 := by decide
theorem fp_49168 : abKd 11 5 = 2 := by decide
theorem fk_49172 : abKd 11 6 = 2 := by decide
theorem fp_49172 : abKd 11 6 = 2 := by decide
theorem fk_49175 : abKd 11 7 = 2 := by decide
theorem fp_49175 : abKd 11 7 = 2 := by decide
theorem fk_49178 : abKd 11 8 = 2 := by decide
theorem fp_49178 : abKd 11 8 = 2 := by decide
theorem fk_49181 : abKd 11 9 = 2 := by decide
theorem fp_49181 : abKd 11 9 = 2 := by decide
theorem fk_49184 : abKd 11 10 = 2 := by decide
theorem fp_49184 : abKd 11 10 = 2 := by decide
theorem fk_49187 : abKd 11 11 = 2 := by decide
theorem fp_49187 : abKd 11 11 = 2 := by decide
theorem fk_49190 : abKd 11 12 = 2 := by decide
theorem fp_49190 : abKd 11 12 = 2 := by decide
theorem fk_49193 : abKd 11 13 = 2 := by decide
theorem fp_49193 : abKd 11 13 = 2 := by decide
theorem fk_49196 : abKd 11 14 = 2 := by decide
theorem fp_49196 : abKd 11 14 = 2 := by decide
theorem fk_49301 : abKd 11 15 ≠ 2 := by decide
theorem fp_49301 : abKd 11 15 = 0 := by decide
theorem fn_49301 : ¬ abFin 11 15 = true := by decide
theorem fk_49199 : abKd 11 16 = 2 := by decide
theorem fp_49199 : abKd 11 16 = 2 := by decide
theorem fk_49202 : abKd 11 17 = 2 := by decide
theorem fp_49202 : abKd 11 17 = 2 := by decide
theorem fk_49205 : abKd 11 18 = 2 := by decide
theorem fp_49205 : abKd 11 18 = 2 := by decide
theorem fk_49208 : abKd 11 19 = 2 := by decide
theorem fp_49208 : abKd 11 19 = 2 := by decide
theorem fk_49211 : abKd 11 20 = 2 := by decide
theorem fp_49211 : abKd 11 20 = 2 := by decide
theorem fk_49214 : abKd 11 21 = 2 := by decide
theorem fp_49214 : abKd 11 21 = 2 := by decide
theorem fk_49217 : abKd 11 22 = 2 := by decide
theorem fp_49217 : abKd 11 22 = 2 := by decide
theorem fk_49220 : abKd 11 23 = 2 := by decide
theorem fp_49220 : abKd 11 23 = 2 := by decide
theorem fk_49223 : abKd 11 24 = 2 := by decide
theorem fp_49223 : abKd 11 24 = 2 := by decide
theorem fk_49226 : abKd 11 25 = 2 := by decide
theorem fp_49226 : abKd 11 25 = 2 := by decide
theorem fk_49332 : abKd 11 26 ≠ 2 := by decide
theorem fp_49332 : abKd 11 26 = 1 := by decide
theorem fn_49332 : ¬ abFin 11 26 = true := by decide
theorem fk_49229 : abKd 11 27 = 2 := by decide
theorem fp_49229 : abKd 11 27 = 2 := by decide
theorem fk_49232 : abKd 11 28 = 2 := by decide
theorem fp_49232 : abKd 11 28 = 2 := by decide
theorem fk_49436 : abKd 11 29 ≠ 2 := by decide
theorem fp_49436 : abKd 11 29 = 0 := by decide
theorem fn_49436 : ¬ abFin 11 29 = true := by decide
theorem fk_49420 : abKd 11 30 ≠ 2 := by decide
theorem fp_49420 : abKd 11 30 = 0 := by decide
theorem fn_49420 : ¬ abFin 11 30 = true := by decide
theorem fk_49235 : abKd 11 31 = 2 := by decide
theorem fp_49235 : abKd 11 31 = 2 := by decide
theorem fk_49342 : abKd 11 32 ≠ 2 := by decide
theorem fp_49342 : abKd 11 32 = 0 := by decide
theorem fn_49342 : ¬ abFin 11 32 = true := by decide
theorem fk_49463 : abKd 11 33 ≠ 2 := by decide
theorem fp_49463 : abKd 11 33 = 0 := by decide
theorem fn_49463 : ¬ abFin 11 33 = true := by decide
theorem fk_49448 : abKd 11 34 ≠ 2 := by decide
theorem fp_49448 : abKd 11 34 = 0 := by decide
theorem fn_49448 : ¬ abFin 11 34 = true := by decide
theorem fk_49238 : abKd 11 35 = 2 := by decide
theorem fp_49238 : abKd 11 35 = 2 := by decide
theorem fk_49336 : abKd 11 36 ≠ 2 := by decide
theorem fp_49336 : abKd 11 36 = 1 := by decide
theorem fn_49336 : ¬ abFin 11 36 = true := by decide
theorem fk_49469 : abKd 11 37 ≠ 2 := by decide
theorem fp_49469 : abKd 11 37 = 0 := by decide
theorem fn_49469 : ¬ abFin 11 37 = true := by decide
theorem fk_49472 : abKd 11 38 ≠ 2 := by decide
theorem fp_49472 : abKd 11 38 = 0 := by decide
theorem fn_49472 : ¬ abFin 11 38 = true := by decide
theorem fk_49475 : abKd 11 39 ≠ 2 := by decide
theorem fp_49475 : abKd 11 39 = 0 := by decide
theorem fn_49475 : ¬ abFin 11 39 = true := by decide
theorem fk_49241 : abKd 11 40 = 2 := by decide
theorem fp_49241 : abKd 11 40 = 2 := by decide
theorem fk_49244 : abKd 11 41 = 2 := by decide
theorem fp_49244 : abKd 11 41 = 2 := by decide
theorem fk_49247 : abKd 11 42 = 2 := by decide
theorem fp_49247 : abKd 11 42 = 2 := by decide
theorem fk_49250 : abKd 11 43 = 2 := by decide
theorem fp_49250 : abKd 11 43 = 2 := by decide
theorem fk_49253 : abKd 11 44 = 2 := by decide
theorem fp_49253 : abKd 11 44 = 2 := by decide
theorem fk_49287 : abKd 11 45 ≠ 2 := by decide
theorem fp_49287 : abKd 11 45 = 0 := by decide
theorem fn_49287 : ¬ abFin 11 45 = true := by decide
theorem fk_49256 : abKd 11 46 = 2 := by decide
theorem fp_49256 : abKd 11 46 = 2 := by decide
theorem fk_49259 : abKd 11 47 = 2 := by decide
theorem fp_49259 : abKd 11 47 = 2 := by decide
theorem fk_49262 : abKd 11 48 = 2 := by decide
theorem fp_49262 : abKd 11 48 = 2 := by decide
theorem fk_49265 : abKd 11 49 = 2 := by decide
theorem fp_49265 : abKd 11 49 = 2 := by decide
theorem fk_49268 : abKd 11 50 = 2 := by decide
theorem fp_49268 : abKd 11 50 = 2 := by decide
theorem fk_49271 : abKd 11 51 = 2 := by decide
theorem fp_49271 : abKd 11 51 = 2 := by decide
theorem fk_49274 : abKd 11 52 = 2 := by decide
theorem fp_49274 : abKd 11 52 = 2 := by decide
theorem fk_49439 : abKd 11 53 ≠ 2 := by decide
theorem fp_49439 : abKd 11 53 = 0 := by decide
theorem fn_49439 : ¬ abFin 11 53 = true := by decide
theorem ct_53257 : abCT.lookup 53257 = some (94, 4, 102, 103, 0) := by decide +kernel
theorem ct_45057 : abCT.lookup 45057 = some (0, 6, 105, 106, 107) := by decide +kernel
theorem ct_45065 : abCT.lookup 45065 = some (55, 5, 110, 111, 0) := by decide +kernel
theorem ct_28675 : abCT.lookup 28675 = some (0, 6, 113, 106, 107) := by decide +kernel
theorem ct_45074 : abCT.lookup 45074 = some (42, 5, 134, 135, 0) := by decide +kernel
theorem ct_24579 : abCT.lookup 24579 = some (0, 6, 137, 106, 107) := by decide +kernel
theorem ct_45082 : abCT.lookup 45082 = some (43, 0, 206, 207, 208) := by decide +kernel
theorem ct_45087 : abCT.lookup 45087 = some (81, 5, 212, 213, 0) := by decide +kernel
theorem ct_40963 : abCT.lookup 40963 = some (0, 6, 215, 106, 107) := by decide +kernel
theorem ct_40971 : abCT.lookup 40971 = some (25, 5, 218, 219, 0) := by decide +kernel
theorem ct_12291 : abCT.lookup 12291 = some (0, 6, 221, 106, 107) := by decide +kernel
theorem ct_45094 : abCT.lookup 45094 = some (31, 5, 293, 294, 0) := by decide +kernel
theorem ct_16387 : abCT.lookup 16387 = some (0, 6, 296, 106, 107) := by decide +kernel
theorem ct_45101 : abCT.lookup 45101 = some (13, 5, 316, 317, 0) := by decide +kernel
theorem ct_4099 : abCT.lookup 4099 = some (0, 6, 319, 106, 107) := by decide +kernel
theorem ct_45112 : abCT.lookup 45112 = some (71, 5, 343, 344, 0) := by decide +kernel
theorem ct_32771 : abCT.lookup 32771 = some (0, 6, 346, 106, 107) := by decide +kernel
theorem ct_45119 : abCT.lookup 45119 = some (37, 5, 360, 361, 0) := by decide +kernel
theorem ct_20483 : abCT.lookup 20483 = some (0, 6, 363, 106, 107) := by decide +kernel
theorem ct_45126 : abCT.lookup 45126 = some (0, 5, 376, 377, 0) := by decide +kernel
theorem ct_3 : abCT.lookup 3 = some (0, 6, 379, 106, 107) := by decide +kernel
theorem ct_45140 : abCT.lookup 45140 = some (77, 5, 404, 405, 0) := by decide +kernel
theorem ct_36867 : abCT.lookup 36867 = some (0, 6, 407, 106, 107) := by decide +kernel
theorem ct_45141 : abCT.lookup 45141 = some (133, 0, 427, 429, 0) := by decide +kernel
theorem ct_45333 : abCT.lookup 45333 = some (1, 0, 431, 432, 433) := by decide +kernel
theorem ct_45168 : abCT.lookup 45168 = some (134, 0, 435, 437, 1) := by decide +kernel
theorem ct_45388 : abCT.lookup 45388 = some (82, 0, 439, 440, 441) := by decide +kernel
theorem ct_40998 : abCT.lookup 40998 = some (26, 0, 443, 444, 445) := by decide +kernel
theorem ct_12314 : abCT.lookup 12314 = some (51, 0, 447, 448, 449) := by decide +kernel
theorem ct_12336 : abCT.lookup 12336 = some (24, 2, 451, 452, 0) := by decide +kernel
theorem ct_8213 : abCT.lookup 8213 = some (0, 8, 454, 455, 456) := by decide +kernel
theorem ct_12341 : abCT.lookup 12341 = some (22, 2, 457, 458, 0) := by decide +kernel
theorem ct_8209 : abCT.lookup 8209 = some (21, 2, 460, 461, 0) := by decide +kernel
theorem ct_8201 : abCT.lookup 8201 = some (20, 2, 463, 464, 0) := by decide +kernel
theorem ct_41006 : abCT.lookup 41006 = some (85, 0, 468, 470, 2) := by decide +kernel
theorem ct_41041 : abCT.lookup 41041 = some (86, 0, 472, 474, 3) := by decide +kernel
theorem ct_41034 : abCT.lookup 41034 = some (54, 0, 476, 477, 478) := by decide +kernel
theorem ct_41013 : abCT.lookup 41013 = some (87, 0, 480, 482, 4) := by decide +kernel
theorem ct_41016 : abCT.lookup 41016 = some (88, 0, 484, 486, 5) := by decide +kernel
theorem ct_41058 : abCT.lookup 41058 = some (27, 0, 488, 489, 490) := by decide +kernel
theorem ct_12350 : abCT.lookup 12350 = some (28, 0, 492, 494, 6) := by decide +kernel
theorem ct_41062 : abCT.lookup 41062 = some (29, 0, 496, 497, 498) := by decide +kernel
theorem ct_41065 : abCT.lookup 41065 = some (30, 0, 500, 501, 502) := by decide +kernel
theorem ct_12357 : abCT.lookup 12357 = some (27, 0, 504, 489, 490) := by decide +kernel
theorem ct_12361 : abCT.lookup 12361 = some (0, 9, 505, 506, 507) := by decide +kernel
theorem ct_53263 : abCT.lookup 53263 = some (95, 0, 551, 552, 553) := by decide +kernel
theorem ct_45148 : abCT.lookup 45148 = some (56, 0, 555, 556, 557) := by decide +kernel
theorem ct_53268 : abCT.lookup 53268 = some (96, 0, 559, 560, 561) := by decide +kernel
theorem ct_45152 : abCT.lookup 45152 = some (57, 0, 563, 564, 565) := by decide +kernel
theorem ct_28695 : abCT.lookup 28695 = some (43, 0, 567, 207, 208) := by decide +kernel
theorem ct_28700 : abCT.lookup 28700 = some (70, 0, 568, 570, 7) := by decide +kernel
theorem ct_28707 : abCT.lookup 28707 = some (58, 0, 572, 574, 8) := by decide +kernel
theorem ct_28711 : abCT.lookup 28711 = some (69, 0, 576, 578, 9) := by decide +kernel
theorem ct_28715 : abCT.lookup 28715 = some (68, 0, 580, 582, 10) := by decide +kernel
theorem ct_28718 : abCT.lookup 28718 = some (20, 2, 584, 464, 0) := by decide +kernel
theorem ct_28724 : abCT.lookup 28724 = some (62, 0, 585, 587, 11) := by decide +kernel
theorem ct_28759 : abCT.lookup 28759 = some (47, 0, 589, 590, 591) := by decide +kernel
theorem ct_28763 : abCT.lookup 28763 = some (63, 0, 593, 595, 12) := by decide +kernel
theorem ct_28731 : abCT.lookup 28731 = some (44, 0, 597, 598, 599) := by decide +kernel
theorem ct_28772 : abCT.lookup 28772 = some (50, 0, 601, 602, 603) := by decide +kernel
theorem ct_28776 : abCT.lookup 28776 = some (48, 0, 605, 606, 607) := by decide +kernel
theorem ct_28740 : abCT.lookup 28740 = some (67, 0, 609, 611, 13) := by decide +kernel
theorem ct_28766 : abCT.lookup 28766 = some (64, 0, 613, 615, 14) := by decide +kernel
theorem ct_28783 : abCT.lookup 28783 = some (49, 0, 617, 618, 619) := by decide +kernel
theorem ct_28769 : abCT.lookup 28769 = some (65, 0, 621, 623, 15) := by decide +kernel
theorem ct_28746 : abCT.lookup 28746 = some (66, 0, 625, 627, 16) := by decide +kernel
theorem ct_28734 : abCT.lookup 28734 = some (59, 0, 629, 631, 17) := by decide +kernel
theorem ct_28737 : abCT.lookup 28737 = some (60, 0, 633, 635, 18) := by decide +kernel
theorem ct_28743 : abCT.lookup 28743 = some (61, 0, 637, 639, 19) := by decide +kernel
theorem ct_28752 : abCT.lookup 28752 = some (46, 0, 641, 642, 643) := by decide +kernel
theorem ct_53273 : abCT.lookup 53273 = some (97, 0, 645, 646, 647) := by decide +kernel
theorem ct_53278 : abCT.lookup 53278 = some (98, 0, 649, 650, 651) := by decide +kernel
theorem ct_45171 : abCT.lookup 45171 = some (129, 2, 653, 654, 0) := by decide +kernel
theorem ct_45181 : abCT.lookup 45181 = some (83, 0, 656, 657, 658) := by decide +kernel
theorem ct_41028 : abCT.lookup 41028 = some (45, 0, 660, 661, 662) := by decide +kernel
theorem ct_45185 : abCT.lookup 45185 = some (84, 0, 664, 665, 666) := by decide +kernel
theorem ct_53283 : abCT.lookup 53283 = some (99, 0, 668, 669, 670) := by decide +kernel
theorem ct_45189 : abCT.lookup 45189 = some (135, 0, 672, 674, 20) := by decide +kernel
theorem ct_53287 : abCT.lookup 53287 = some (100, 0, 676, 677, 678) := by decide +kernel
theorem ct_53291 : abCT.lookup 53291 = some (101, 0, 680, 681, 682) := by decide +kernel
theorem ct_53295 : abCT.lookup 53295 = some (102, 0, 684, 685, 686) := by decide +kernel
theorem ct_45206 : abCT.lookup 45206 = some (53, 0, 688, 689, 690) := by decide +kernel
theorem ct_24632 : abCT.lookup 24632 = some (52, 0, 692, 693, 694) := by decide +kernel
theorem ct_24626 : abCT.lookup 24626 = some (23, 2, 696, 697, 0) := by decide +kernel
theorem ct_45210 : abCT.lookup 45210 = some (89, 0, 699, 700, 701) := by decide +kernel
theorem ct_53299 : abCT.lookup 53299 = some (103, 0, 703, 704, 705) := by decide +kernel
theorem ct_45213 : abCT.lookup 45213 = some (44, 0, 707, 598, 599) := by decide +kernel
theorem ct_53303 : abCT.lookup 53303 = some (104, 0, 708, 709, 710) := by decide +kernel
theorem ct_45237 : abCT.lookup 45237 = some (45, 0, 712, 661, 662) := by decide +kernel
theorem ct_45246 : abCT.lookup 45246 = some (52, 0, 713, 693, 694) := by decide +kernel
theorem ct_53307 : abCT.lookup 53307 = some (105, 0, 714, 715, 716) := by decide +kernel
theorem ct_45261 : abCT.lookup 45261 = some (32, 0, 718, 719, 720) := by decide +kernel
theorem ct_16421 : abCT.lookup 16421 = some (33, 0, 722, 724, 21) := by decide +kernel
theorem ct_16430 : abCT.lookup 16430 = some (29, 0, 727, 497, 498) := by decide +kernel
theorem ct_16434 : abCT.lookup 16434 = some (54, 0, 728, 477, 478) := by decide +kernel
theorem ct_16438 : abCT.lookup 16438 = some (34, 0, 729, 731, 22) := by decide +kernel
theorem ct_16448 : abCT.lookup 16448 = some (30, 0, 733, 501, 502) := by decide +kernel
theorem ct_16452 : abCT.lookup 16452 = some (0, 8, 734, 455, 456) := by decide +kernel
theorem ct_16442 : abCT.lookup 16442 = some (0, 9, 735, 506, 507) := by decide +kernel
theorem ct_16426 : abCT.lookup 16426 = some (35, 0, 736, 738, 23) := by decide +kernel
theorem ct_16455 : abCT.lookup 16455 = some (36, 0, 740, 742, 24) := by decide +kernel
theorem ct_53311 : abCT.lookup 53311 = some (106, 0, 744, 745, 746) := by decide +kernel
theorem ct_45272 : abCT.lookup 45272 = some (136, 0, 748, 750, 25) := by decide +kernel
theorem ct_45275 : abCT.lookup 45275 = some (14, 0, 752, 753, 754) := by decide +kernel
theorem ct_4135 : abCT.lookup 4135 = some (15, 0, 757, 759, 26) := by decide +kernel
theorem ct_4139 : abCT.lookup 4139 = some (0, 7, 761, 763, 762) := by decide +kernel
theorem ct_4145 : abCT.lookup 4145 = some (16, 0, 764, 766, 27) := by decide +kernel
theorem ct_4149 : abCT.lookup 4149 = some (18, 0, 768, 770, 28) := by decide +kernel
theorem ct_4175 : abCT.lookup 4175 = some (19, 0, 772, 774, 29) := by decide +kernel
theorem ct_4179 : abCT.lookup 4179 = some (91, 0, 776, 777, 778) := by decide +kernel
theorem ct_4183 : abCT.lookup 4183 = some (132, 3, 780, 781, 0) := by decide +kernel
theorem ct_4153 : abCT.lookup 4153 = some (17, 0, 783, 785, 30) := by decide +kernel
theorem ct_4157 : abCT.lookup 4157 = some (0, 8, 787, 455, 456) := by decide +kernel
theorem ct_53315 : abCT.lookup 53315 = some (107, 0, 788, 789, 790) := by decide +kernel
theorem ct_53319 : abCT.lookup 53319 = some (108, 0, 792, 793, 794) := by decide +kernel
theorem ct_45284 : abCT.lookup 45284 = some (131, 2, 796, 797, 0) := by decide +kernel
theorem ct_53323 : abCT.lookup 53323 = some (109, 0, 800, 801, 802) := by decide +kernel
theorem ct_45287 : abCT.lookup 45287 = some (137, 0, 804, 806, 31) := by decide +kernel
theorem ct_45394 : abCT.lookup 45394 = some (132, 2, 808, 781, 0) := by decide +kernel
theorem ct_45291 : abCT.lookup 45291 = some (92, 0, 809, 810, 811) := by decide +kernel
theorem ct_41069 : abCT.lookup 41069 = some (91, 0, 813, 777, 778) := by decide +kernel
theorem ct_41072 : abCT.lookup 41072 = some (0, 8, 814, 455, 456) := by decide +kernel
theorem ct_41077 : abCT.lookup 41077 = some (0, 9, 815, 506, 507) := by decide +kernel
theorem ct_53327 : abCT.lookup 53327 = some (110, 0, 816, 817, 818) := by decide +kernel
theorem ct_45295 : abCT.lookup 45295 = some (72, 0, 820, 821, 822) := by decide +kernel
theorem ct_32793 : abCT.lookup 32793 = some (73, 0, 824, 826, 32) := by decide +kernel
theorem ct_32797 : abCT.lookup 32797 = some (74, 0, 828, 830, 33) := by decide +kernel
theorem ct_32812 : abCT.lookup 32812 = some (93, 0, 832, 833, 834) := by decide +kernel
theorem ct_41080 : abCT.lookup 41080 = some (50, 0, 836, 602, 603) := by decide +kernel
theorem ct_32817 : abCT.lookup 32817 = some (219, 2, 837, 838, 0) := by decide +kernel
theorem ct_32801 : abCT.lookup 32801 = some (75, 0, 843, 845, 34) := by decide +kernel
theorem ct_32842 : abCT.lookup 32842 = some (76, 0, 847, 849, 35) := by decide +kernel
theorem ct_53332 : abCT.lookup 53332 = some (111, 0, 851, 852, 853) := by decide +kernel
theorem ct_53336 : abCT.lookup 53336 = some (112, 0, 855, 856, 857) := by decide +kernel
theorem ct_45300 : abCT.lookup 45300 = some (38, 0, 859, 860, 861) := by decide +kernel
theorem ct_20517 : abCT.lookup 20517 = some (52, 0, 863, 693, 694) := by decide +kernel
theorem ct_20521 : abCT.lookup 20521 = some (0, 9, 864, 506, 507) := by decide +kernel
theorem ct_45304 : abCT.lookup 45304 = some (39, 0, 865, 866, 867) := by decide +kernel
theorem ct_20530 : abCT.lookup 20530 = some (40, 0, 869, 871, 36) := by decide +kernel
theorem ct_20533 : abCT.lookup 20533 = some (0, 8, 873, 455, 456) := by decide +kernel
theorem ct_53340 : abCT.lookup 53340 = some (113, 0, 874, 875, 876) := by decide +kernel
theorem ct_45307 : abCT.lookup 45307 = some (41, 0, 878, 879, 880) := by decide +kernel
theorem ct_20536 : abCT.lookup 20536 = some (39, 0, 882, 866, 867) := by decide +kernel
theorem ct_53344 : abCT.lookup 53344 = some (114, 0, 883, 884, 885) := by decide +kernel
theorem ct_53348 : abCT.lookup 53348 = some (115, 0, 887, 888, 889) := by decide +kernel
theorem ct_45313 : abCT.lookup 45313 = some (3, 0, 891, 892, 893) := by decide +kernel
theorem ct_48 : abCT.lookup 48 = some (4, 0, 895, 897, 37) := by decide +kernel
theorem ct_87 : abCT.lookup 87 = some (90, 0, 899, 900, 901) := by decide +kernel
theorem ct_91 : abCT.lookup 91 = some (6, 0, 903, 905, 38) := by decide +kernel
theorem ct_95 : abCT.lookup 95 = some (8, 0, 907, 909, 39) := by decide +kernel
theorem ct_98 : abCT.lookup 98 = some (7, 0, 911, 913, 40) := by decide +kernel
theorem ct_64 : abCT.lookup 64 = some (5, 0, 915, 917, 41) := by decide +kernel
theorem ct_68 : abCT.lookup 68 = some (9, 0, 919, 920, 921) := by decide +kernel
theorem ct_75 : abCT.lookup 75 = some (0, 8, 923, 455, 456) := by decide +kernel
theorem ct_53352 : abCT.lookup 53352 = some (116, 0, 924, 925, 926) := by decide +kernel
theorem ct_45316 : abCT.lookup 45316 = some (10, 0, 928, 929, 930) := by decide +kernel
theorem ct_102 : abCT.lookup 102 = some (11, 0, 932, 934, 42) := by decide +kernel
theorem ct_53356 : abCT.lookup 53356 = some (117, 0, 936, 937, 938) := by decide +kernel
theorem ct_45323 : abCT.lookup 45323 = some (9, 0, 940, 920, 921) := by decide +kernel
theorem ct_53360 : abCT.lookup 53360 = some (118, 0, 941, 942, 943) := by decide +kernel
theorem ct_45329 : abCT.lookup 45329 = some (12, 0, 945, 946, 947) := by decide +kernel
theorem ct_53364 : abCT.lookup 53364 = some (119, 0, 949, 950, 951) := by decide +kernel
theorem ct_53368 : abCT.lookup 53368 = some (120, 0, 953, 954, 955) := by decide +kernel
theorem ct_45336 : abCT.lookup 45336 = some (2, 0, 957, 958, 959) := by decide +kernel
theorem ct_28 : abCT.lookup 28 = some (0, 7, 961, 763, 762) := by decide +kernel
theorem ct_53372 : abCT.lookup 53372 = some (121, 0, 962, 963, 964) := by decide +kernel
theorem ct_53376 : abCT.lookup 53376 = some (122, 0, 966, 967, 968) := by decide +kernel
theorem ct_45343 : abCT.lookup 45343 = some (20, 2, 970, 464, 0) := by decide +kernel
theorem ct_45348 : abCT.lookup 45348 = some (23, 2, 971, 697, 0) := by decide +kernel
theorem ct_45352 : abCT.lookup 45352 = some (24, 2, 972, 452, 0) := by decide +kernel
theorem ct_45355 : abCT.lookup 45355 = some (22, 2, 973, 458, 0) := by decide +kernel
theorem ct_53381 : abCT.lookup 53381 = some (123, 0, 974, 975, 976) := by decide +kernel
theorem ct_53385 : abCT.lookup 53385 = some (124, 0, 978, 979, 980) := by decide +kernel
theorem ct_45360 : abCT.lookup 45360 = some (130, 2, 982, 983, 0) := by decide +kernel
theorem ct_45363 : abCT.lookup 45363 = some (78, 0, 985, 986, 987) := by decide +kernel
theorem ct_53389 : abCT.lookup 53389 = some (125, 0, 989, 990, 991) := by decide +kernel
theorem ct_45367 : abCT.lookup 45367 = some (80, 0, 993, 994, 995) := by decide +kernel
theorem ct_45370 : abCT.lookup 45370 = some (79, 0, 997, 998, 999) := by decide +kernel
theorem ct_53393 : abCT.lookup 53393 = some (126, 0, 1001, 1002, 1003) := by decide +kernel
theorem ct_45376 : abCT.lookup 45376 = some (0, 7, 1005, 763, 762) := by decide +kernel
theorem ct_53398 : abCT.lookup 53398 = some (127, 0, 1006, 1007, 1008) := by decide +kernel
theorem ct_53402 : abCT.lookup 53402 = some (128, 0, 1010, 1011, 1012) := by decide +kernel
theorem ct_45385 : abCT.lookup 45385 = some (21, 2, 1014, 461, 0) := by decide +kernel
theorem ct_53260 : abCT.lookup 53260 = some (138, 4, 1017, 1018, 0) := by decide +kernel
theorem ct_49153 : abCT.lookup 49153 = some (0, 6, 1020, 106, 107) := by decide +kernel
theorem ct_53267 : abCT.lookup 53267 = some (140, 0, 1184, 1185, 1186) := by decide +kernel
theorem ct_49277 : abCT.lookup 49277 = some (139, 2, 1188, 1189, 0) := by decide +kernel
theorem ct_53272 : abCT.lookup 53272 = some (151, 0, 1192, 1193, 1194) := by decide +kernel
theorem ct_49320 : abCT.lookup 49320 = some (149, 0, 1196, 1198, 43) := by decide +kernel
theorem ct_49323 : abCT.lookup 49323 = some (148, 0, 1200, 1202, 44) := by decide +kernel
theorem ct_49290 : abCT.lookup 49290 = some (141, 0, 1204, 1206, 45) := by decide +kernel
theorem ct_49310 : abCT.lookup 49310 = some (147, 0, 1208, 1210, 46) := by decide +kernel
theorem ct_49304 : abCT.lookup 49304 = some (146, 0, 1212, 1214, 47) := by decide +kernel
theorem ct_49297 : abCT.lookup 49297 = some (143, 0, 1216, 1218, 48) := by decide +kernel
theorem ct_49307 : abCT.lookup 49307 = some (145, 0, 1220, 1222, 49) := by decide +kernel
theorem ct_49294 : abCT.lookup 49294 = some (142, 0, 1224, 1226, 50) := by decide +kernel
theorem ct_49314 : abCT.lookup 49314 = some (144, 0, 1228, 1230, 51) := by decide +kernel
theorem ct_49326 : abCT.lookup 49326 = some (150, 0, 1232, 1234, 52) := by decide +kernel
theorem ct_49339 : abCT.lookup 49339 = some (209, 0, 1236, 1237, 1238) := by decide +kernel
theorem ct_53277 : abCT.lookup 53277 = some (152, 0, 1240, 1241, 1242) := by decide +kernel
theorem ct_53380 : abCT.lookup 53380 = some (158, 0, 1244, 1245, 1246) := by decide +kernel
theorem ct_49345 : abCT.lookup 49345 = some (155, 2, 1248, 1249, 0) := by decide +kernel
theorem ct_49349 : abCT.lookup 49349 = some (156, 2, 1251, 1252, 0) := by decide +kernel
theorem ct_49353 : abCT.lookup 49353 = some (157, 2, 1254, 1255, 0) := by decide +kernel
theorem ct_53282 : abCT.lookup 53282 = some (166, 0, 1257, 1258, 1259) := by decide +kernel
theorem ct_49363 : abCT.lookup 49363 = some (162, 0, 1261, 1263, 53) := by decide +kernel
theorem ct_49360 : abCT.lookup 49360 = some (161, 0, 1265, 1267, 54) := by decide +kernel
theorem ct_53286 : abCT.lookup 53286 = some (168, 0, 1269, 1270, 1271) := by decide +kernel
theorem ct_49374 : abCT.lookup 49374 = some (167, 0, 1273, 1275, 55) := by decide +kernel
theorem ct_49377 : abCT.lookup 49377 = some (163, 0, 1277, 1279, 56) := by decide +kernel
theorem ct_49367 : abCT.lookup 49367 = some (164, 0, 1281, 1283, 57) := by decide +kernel
theorem ct_49371 : abCT.lookup 49371 = some (160, 0, 1285, 1287, 58) := by decide +kernel
theorem ct_53290 : abCT.lookup 53290 = some (171, 0, 1289, 1290, 1291) := by decide +kernel
theorem ct_49389 : abCT.lookup 49389 = some (170, 0, 1293, 1295, 59) := by decide +kernel
theorem ct_49380 : abCT.lookup 49380 = some (159, 0, 1297, 1299, 60) := by decide +kernel
theorem ct_49356 : abCT.lookup 49356 = some (154, 0, 1301, 1303, 61) := by decide +kernel
theorem ct_49383 : abCT.lookup 49383 = some (165, 0, 1305, 1307, 62) := by decide +kernel
theorem ct_49386 : abCT.lookup 49386 = some (169, 0, 1309, 1311, 63) := by decide +kernel
theorem ct_53294 : abCT.lookup 53294 = some (172, 0, 1313, 1314, 1315) := by decide +kernel
theorem ct_53298 : abCT.lookup 53298 = some (173, 0, 1317, 1318, 1319) := by decide +kernel
theorem ct_53302 : abCT.lookup 53302 = some (174, 0, 1321, 1322, 1323) := by decide +kernel
theorem ct_49392 : abCT.lookup 49392 = some (153, 0, 1325, 1327, 64) := by decide +kernel
theorem ct_53306 : abCT.lookup 53306 = some (175, 0, 1329, 1330, 1331) := by decide +kernel
theorem ct_53310 : abCT.lookup 53310 = some (179, 0, 1333, 1334, 1335) := by decide +kernel
theorem ct_49401 : abCT.lookup 49401 = some (178, 0, 1337, 1339, 65) := by decide +kernel
theorem ct_49398 : abCT.lookup 49398 = some (177, 0, 1341, 1343, 66) := by decide +kernel
theorem ct_49395 : abCT.lookup 49395 = some (176, 0, 1345, 1347, 67) := by decide +kernel
theorem ct_53314 : abCT.lookup 53314 = some (185, 0, 1349, 1350, 1351) := by decide +kernel
theorem ct_49411 : abCT.lookup 49411 = some (184, 0, 1353, 1355, 68) := by decide +kernel
theorem ct_49414 : abCT.lookup 49414 = some (182, 0, 1357, 1359, 69) := by decide +kernel
theorem ct_49404 : abCT.lookup 49404 = some (180, 0, 1361, 1363, 70) := by decide +kernel
theorem ct_49407 : abCT.lookup 49407 = some (181, 2, 1365, 1366, 0) := by decide +kernel
theorem ct_49417 : abCT.lookup 49417 = some (183, 0, 1368, 1370, 71) := by decide +kernel
theorem ct_53318 : abCT.lookup 53318 = some (186, 0, 1372, 1373, 1374) := by decide +kernel
theorem ct_53322 : abCT.lookup 53322 = some (187, 0, 1376, 1377, 1378) := by decide +kernel
theorem ct_53326 : abCT.lookup 53326 = some (189, 0, 1381, 1382, 1383) := by decide +kernel
theorem ct_49424 : abCT.lookup 49424 = some (188, 0, 1385, 1387, 72) := by decide +kernel
theorem ct_53331 : abCT.lookup 53331 = some (193, 0, 1389, 1390, 1391) := by decide +kernel
theorem ct_49430 : abCT.lookup 49430 = some (191, 0, 1393, 1395, 73) := by decide +kernel
theorem ct_49427 : abCT.lookup 49427 = some (190, 0, 1397, 1399, 74) := by decide +kernel
theorem ct_49433 : abCT.lookup 49433 = some (192, 0, 1401, 1403, 75) := by decide +kernel
theorem ct_53335 : abCT.lookup 53335 = some (194, 0, 1405, 1406, 1407) := by decide +kernel
theorem ct_53339 : abCT.lookup 53339 = some (197, 0, 1409, 1410, 1411) := by decide +kernel
theorem ct_49442 : abCT.lookup 49442 = some (195, 0, 1413, 1415, 76) := by decide +kernel
theorem ct_49445 : abCT.lookup 49445 = some (196, 0, 1417, 1419, 77) := by decide +kernel
theorem ct_53343 : abCT.lookup 53343 = some (198, 0, 1421, 1422, 1423) := by decide +kernel
theorem ct_53347 : abCT.lookup 53347 = some (199, 0, 1425, 1426, 1427) := by decide +kernel
theorem ct_53351 : abCT.lookup 53351 = some (205, 0, 1429, 1430, 1431) := by decide +kernel
theorem ct_49466 : abCT.lookup 49466 = some (204, 0, 1433, 1435, 78) := by decide +kernel
theorem ct_49457 : abCT.lookup 49457 = some (202, 0, 1437, 1439, 79) := by decide +kernel
theorem ct_49451 : abCT.lookup 49451 = some (201, 0, 1441, 1443, 80) := by decide +kernel
theorem ct_49454 : abCT.lookup 49454 = some (203, 0, 1445, 1447, 81) := by decide +kernel
theorem ct_49460 : abCT.lookup 49460 = some (200, 0, 1449, 1451, 82) := by decide +kernel
theorem ct_53355 : abCT.lookup 53355 = some (206, 0, 1453, 1454, 1455) := by decide +kernel
theorem ct_53359 : abCT.lookup 53359 = some (207, 0, 1457, 1458, 1459) := by decide +kernel
theorem ct_53363 : abCT.lookup 53363 = some (208, 0, 1461, 1462, 1463) := by decide +kernel
theorem ct_53367 : abCT.lookup 53367 = some (209, 0, 1465, 1237, 1238) := by decide +kernel
theorem ct_53371 : abCT.lookup 53371 = some (210, 0, 1466, 1467, 1468) := by decide +kernel
theorem ct_53375 : abCT.lookup 53375 = some (211, 0, 1470, 1471, 1472) := by decide +kernel
theorem ct_53384 : abCT.lookup 53384 = some (212, 0, 1474, 1475, 1476) := by decide +kernel
theorem ct_53388 : abCT.lookup 53388 = some (213, 0, 1478, 1479, 1480) := by decide +kernel
theorem ct_53392 : abCT.lookup 53392 = some (214, 0, 1482, 1483, 1484) := by decide +kernel
theorem ct_53397 : abCT.lookup 53397 = some (215, 0, 1486, 1487, 1488) := by decide +kernel
theorem ct_53401 : abCT.lookup 53401 = some (216, 0, 1490, 1491, 1492) := by decide +kernel
theorem ct_49478 : abCT.lookup 49478 = some (187, 0, 1494, 1377, 1378) := by decide +kernel
theorem ct_53405 : abCT.lookup 53405 = some (218, 0, 1495, 1496, 1497) := by decide +kernel
theorem ct_49481 : abCT.lookup 49481 = some (217, 2, 1499, 1500, 0) := by decide +kernel
theorem nt_53255 : abNT.lookup 53255 = some (10, 100, 101, 84) := by decide +kernel
theorem nt_45063 : abNT.lookup 45063 = some (6, 108, 109, 85) := by decide +kernel
theorem nt_45072 : abNT.lookup 45072 = some (5, 132, 133, 86) := by decide +kernel
theorem nt_45085 : abNT.lookup 45085 = some (9, 210, 211, 87) := by decide +kernel
theorem nt_40969 : abNT.lookup 40969 = some (2, 216, 217, 88) := by decide +kernel
theorem nt_45092 : abNT.lookup 45092 = some (3, 291, 292, 89) := by decide +kernel
theorem nt_45099 : abNT.lookup 45099 = some (1, 314, 315, 90) := by decide +kernel
theorem nt_45110 : abNT.lookup 45110 = some (7, 341, 342, 91) := by decide +kernel
theorem nt_45117 : abNT.lookup 45117 = some (4, 358, 359, 92) := by decide +kernel
theorem nt_45124 : abNT.lookup 45124 = some (0, 374, 375, 93) := by decide +kernel
theorem nt_45134 : abNT.lookup 45134 = some (8, 401, 403, 94) := by decide +kernel
theorem nt_53258 : abNT.lookup 53258 = some (11, 1015, 1016, 97) := by decide +kernel
theorem kt_16425 : abKT.lookup 16425 = some (2147483647, 726) := by decide +kernel
theorem kt_4131 : abKT.lookup 4131 = some (2147483647, 756) := by decide +kernel
theorem kt_45294 : abKT.lookup 45294 = some (100000, 799) := by decide +kernel
theorem kt_57609 : abKT.lookup 57609 = some (1431655765, 840) := by decide +kernel
theorem kt_57610 : abKT.lookup 57610 = some (858993459, 841) := by decide +kernel
theorem kt_57611 : abKT.lookup 57611 = some (252645135, 842) := by decide +kernel
theorem kt_49423 : abKT.lookup 49423 = some (99999, 1380) := by decide +kernel
theorem lt_49285 : abLT.lookup 49285 = some (255, 1191) := by decide +kernel
theorem lt_53261 : abLT.lookup 53261 = some (4294967295, 1502) := by decide +kernel
theorem st_8205 : abST.lookup 8205 = some 466 := by decide +kernel
theorem bp_10 : (Int8.ofInt 10).toInt32 = nI 10 := by decide +kernel
theorem bp_100 : (Int8.ofInt 100).toInt32 = nI 100 := by decide +kernel
theorem bp_108 : (Int8.ofInt 108).toInt32 = nI 108 := by decide +kernel
theorem bp_109 : (Int8.ofInt 109).toInt32 = nI 109 := by decide +kernel
theorem bp_11 : (Int8.ofInt 11).toInt32 = nI 11 := by decide +kernel
theorem bp_12 : (Int8.ofInt 12).toInt32 = nI 12 := by decide +kernel
theorem bp_16 : (Int8.ofInt 16).toInt32 = nI 16 := by decide +kernel
theorem bp_20 : (Int8.ofInt 20).toInt32 = nI 20 := by decide +kernel
theorem bp_32 : (Int8.ofInt 32).toInt32 = nI 32 := by decide +kernel
theorem bp_33 : (Int8.ofInt 33).toInt32 = nI 33 := by decide +kernel
theorem bp_40 : (Int8.ofInt 40).toInt32 = nI 40 := by decide +kernel
theorem bp_43 : (Int8.ofInt 43).toInt32 = nI 43 := by decide +kernel
theorem bp_48 : (Int8.ofInt 48).toInt32 = nI 48 := by decide +kernel
theorem bp_53 : (Int8.ofInt 53).toInt32 = nI 53 := by decide +kernel
theorem bp_57 : (Int8.ofInt 57).toInt32 = nI 57 := by decide +kernel
theorem bp_59 : (Int8.ofInt 59).toInt32 = nI 59 := by decide +kernel
theorem bp_6 : (Int8.ofInt 6).toInt32 = nI 6 := by decide +kernel
theorem bp_60 : (Int8.ofInt 60).toInt32 = nI 60 := by decide +kernel
theorem bp_61 : (Int8.ofInt 61).toInt32 = nI 61 := by decide +kernel
theorem bp_62 : (Int8.ofInt 62).toInt32 = nI 62 := by decide +kernel
theorem bp_63 : (Int8.ofInt 63).toInt32 = nI 63 := by decide +kernel
theorem bp_65 : (Int8.ofInt 65).toInt32 = nI 65 := by decide +kernel
theorem bp_68 : (Int8.ofInt 68).toInt32 = nI 68 := by decide +kernel
theorem bp_7 : (Int8.ofInt 7).toInt32 = nI 7 := by decide +kernel
theorem bp_8 : (Int8.ofInt 8).toInt32 = nI 8 := by decide +kernel
theorem bp_9 : (Int8.ofInt 9).toInt32 = nI 9 := by decide +kernel
theorem bp_97 : (Int8.ofInt 97).toInt32 = nI 97 := by decide +kernel
theorem bp_99 : (Int8.ofInt 99).toInt32 = nI 99 := by decide +kernel
theorem bp_m100 : (Int8.ofInt (-100)).toInt32 = (-100) := by decide +kernel
theorem bp_m11 : (Int8.ofInt (-11)).toInt32 = (-11) := by decide +kernel
theorem bp_m12 : (Int8.ofInt (-12)).toInt32 = (-12) := by decide +kernel
theorem bp_m13 : (Int8.ofInt (-13)).toInt32 = (-13) := by decide +kernel
theorem bp_m14 : (Int8.ofInt (-14)).toInt32 = (-14) := by decide +kernel
theorem bp_m2 : (Int8.ofInt (-2)).toInt32 = (-2) := by decide +kernel
theorem bp_m3 : (Int8.ofInt (-3)).toInt32 = (-3) := by decide +kernel
theorem bp_m4 : (Int8.ofInt (-4)).toInt32 = (-4) := by decide +kernel
theorem bp_m5 : (Int8.ofInt (-5)).toInt32 = (-5) := by decide +kernel
theorem bp_m6 : (Int8.ofInt (-6)).toInt32 = (-6) := by decide +kernel
theorem bp_m7 : (Int8.ofInt (-7)).toInt32 = (-7) := by decide +kernel
theorem ic_0 : Int32.ofInt 0 = nI 0 := by decide +kernel
theorem ic_1 : Int32.ofInt 1 = nI 1 := by decide +kernel
theorem ic_2 : Int32.ofInt 2 = nI 2 := by decide +kernel
theorem ic_3 : Int32.ofInt 3 = nI 3 := by decide +kernel
theorem ic_4 : Int32.ofInt 4 = nI 4 := by decide +kernel
theorem ic_5 : Int32.ofInt 5 = nI 5 := by decide +kernel
theorem ic_6 : Int32.ofInt 6 = nI 6 := by decide +kernel
theorem ic_m1 : Int32.ofInt (-1) = (-1) := by decide +kernel
theorem sp_1024 : (Int16.ofInt 1024).toInt32 = nI 1024 := by decide +kernel
theorem sp_160 : (Int16.ofInt 160).toInt32 = nI 160 := by decide +kernel
theorem sp_240 : (Int16.ofInt 240).toInt32 = nI 240 := by decide +kernel
theorem sp_255 : (Int16.ofInt 255).toInt32 = nI 255 := by decide +kernel
theorem sp_400 : (Int16.ofInt 400).toInt32 = nI 400 := by decide +kernel
theorem sp_999 : (Int16.ofInt 999).toInt32 = nI 999 := by decide +kernel
