theorem yl_X7_advance : YL yX7_advance cX7_advance 2 none 0 := ⟨(gm3 (List.mem_of_getElem? (i := 147) rfl) rfl), (gm1 (List.mem_of_getElem? (i := 2) rfl) rfl), by decide, by decide, by decide +kernel⟩
theorem yl_X7_fail : YL yX7_fail cX7_fail 2 none 1 := ⟨(gm3 (List.mem_of_getElem? (i := 161) rfl) rfl), (gm1 (List.mem_of_getElem? (i := 2) rfl) rfl), by decide, by decide, by decide +kernel⟩
theorem fl_RX2_12_2 : FL RX2 12 2 12 := ⟨RX2, RX2, TX2, 14, ci2, by decide, (gm2 (List.mem_of_getElem? (i := 8) rfl) rfl), Or.inl rfl⟩
theorem fl_RX2_75_1 : FL RX2 75 1 1 := ⟨RX1, RX1, TX1, 16, ci1, by decide, (gm1 (List.mem_of_getElem? (i := 168) rfl) rfl), Or.inl rfl⟩
theorem fl_RX2_81_2 : FL RX2 81 2 6 := ⟨RX2, RX2, TX2, 14, ci2, by decide, (gm2 (List.mem_of_getElem? (i := 17) rfl) rfl), Or.inr (gm2 (List.mem_of_getElem? (i := 18) rfl) rfl)⟩
theorem fl_RX2_84_2 : FL RX2 84 2 8 := ⟨RX2, RX2, TX2, 14, ci2, by decide, (gm2 (List.mem_of_getElem? (i := 23) rfl) rfl), Or.inr (gm2 (List.mem_of_getElem? (i := 24) rfl) rfl)⟩
theorem fl_RX2_87_1 : FL RX2 87 1 0 := ⟨RX1, RX1, TX1, 16, ci1, by decide, (gm1 (List.mem_of_getElem? (i := 165) rfl) rfl), Or.inl rfl⟩
theorem fl_RX2_90_2 : FL RX2 90 2 10 := ⟨RX2, RX2, TX2, 14, ci2, by decide, (gm2 (List.mem_of_getElem? (i := 32) rfl) rfl), Or.inr (gm2 (List.mem_of_getElem? (i := 33) rfl) rfl)⟩
theorem fl_RX2_93_2 : FL RX2 93 2 7 := ⟨RX2, RX2, TX2, 14, ci2, by decide, (gm2 (List.mem_of_getElem? (i := 20) rfl) rfl), Or.inr (gm2 (List.mem_of_getElem? (i := 21) rfl) rfl)⟩
theorem yl_X1_addRow : YL yX1_addRow cX1_addRow 8 none 2 := ⟨(gm3 (List.mem_of_getElem? (i := 177) rfl) rfl), (gm1 (List.mem_of_getElem? (i := 8) rfl) rfl), by decide, by decide, by decide +kernel⟩
theorem yl_X7_readNumber : YL yX7_readNumber cX7_readNumber 3 (some .int) 2 := ⟨(gm3 (List.mem_of_getElem? (i := 187) rfl) rfl), (gm1 (List.mem_of_getElem? (i := 2) rfl) rfl), by decide, by decide, by decide +kernel⟩
theorem fl_RX2_25_2 : FL RX2 25 2 13 := ⟨RX2, RX2, TX2, 14, ci2, by decide, (gm2 (List.mem_of_getElem? (i := 10) rfl) rfl), Or.inl rfl⟩
theorem fp_RX2_25_2 : FP RX2 25 2 13 := ⟨RX2, RX2, TX2, 14, ci2, by decide, (gm2 (List.mem_of_getElem? (i := 10) rfl) rfl), Or.inl rfl, rfl⟩
theorem fl_RX2_104_1 : FL RX2 104 1 4 := ⟨RX1, RX1, TX1, 16, ci1, by decide, (gm1 (List.mem_of_getElem? (i := 174) rfl) rfl), Or.inl rfl⟩
theorem fl_RX7_55_2 : FL RX7 55 2 9 := ⟨RX2, RX7, TX2, 14, ci2, by decide, (gm2 (List.mem_of_getElem? (i := 30) rfl) rfl), Or.inl rfl⟩
theorem fl_RX7_55_3 : FL RX7 55 3 9 := ⟨RX3, RX7, TX3, 15, ci3, by decide, (gm2 (List.mem_of_getElem? (i := 30) rfl) rfl), Or.inl rfl⟩
theorem fl_RX2_131_1 : FL RX2 131 1 10 := ⟨RX1, RX1, TX1, 16, ci1, by decide, (gm1 (List.mem_of_getElem? (i := 195) rfl) rfl), Or.inl rfl⟩
theorem fl_RX2_108_1 : FL RX2 108 1 5 := ⟨RX1, RX1, TX1, 16, ci1, by decide, (gm1 (List.mem_of_getElem? (i := 179) rfl) rfl), Or.inl rfl⟩
theorem fl_RX2_111_1 : FL RX2 111 1 6 := ⟨RX1, RX1, TX1, 16, ci1, by decide, (gm1 (List.mem_of_getElem? (i := 183) rfl) rfl), Or.inl rfl⟩
theorem yl_X7_readName : YL yX7_readName cX7_readName 1 (some .int) 0 := ⟨(gm3 (List.mem_of_getElem? (i := 197) rfl) rfl), (gm1 (List.mem_of_getElem? (i := 2) rfl) rfl), by decide, by decide, by decide +kernel⟩
theorem yl_X1_raftNamed : YL yX1_raftNamed cX1_raftNamed 3 (some .int) 1 := ⟨(gm3 (List.mem_of_getElem? (i := 201) rfl) rfl), (gm1 (List.mem_of_getElem? (i := 8) rfl) rfl), by decide, by decide, by decide +kernel⟩
theorem fl_RX2_122_1 : FL RX2 122 1 7 := ⟨RX1, RX1, TX1, 16, ci1, by decide, (gm1 (List.mem_of_getElem? (i := 186) rfl) rfl), Or.inl rfl⟩
theorem fl_RX2_125_1 : FL RX2 125 1 8 := ⟨RX1, RX1, TX1, 16, ci1, by decide, (gm1 (List.mem_of_getElem? (i := 189) rfl) rfl), Or.inl rfl⟩
theorem fl_RX2_128_1 : FL RX2 128 1 9 := ⟨RX1, RX1, TX1, 16, ci1, by decide, (gm1 (List.mem_of_getElem? (i := 191) rfl) rfl), Or.inl rfl⟩
theorem yl_X2_readCell : YL yX2_readCell cX2_readCell 3 (some .int) 0 := ⟨(gm3 (List.mem_of_getElem? (i := 205) rfl) rfl), (gm1 (List.mem_of_getElem? (i := 3) rfl) rfl), by decide, by decide, by decide +kernel⟩
theorem yl_X2_isOnAnother : YL yX2_isOnAnother cX2_isOnAnother 5 (some .boolean) 1 := ⟨(gm3 (List.mem_of_getElem? (i := 221) rfl) rfl), (gm1 (List.mem_of_getElem? (i := 3) rfl) rfl), by decide, by decide, by decide +kernel⟩
theorem fp_RX2_108_1 : FP RX2 108 1 5 := ⟨RX1, RX1, TX1, 16, ci1, by decide, (gm1 (List.mem_of_getElem? (i := 179) rfl) rfl), Or.inl rfl, rfl⟩
theorem fl_RX2_149_1 : FL RX2 149 1 11 := ⟨RX1, RX1, TX1, 16, ci1, by decide, (gm1 (List.mem_of_getElem? (i := 197) rfl) rfl), Or.inl rfl⟩
theorem fl_RX2_152_1 : FL RX2 152 1 12 := ⟨RX1, RX1, TX1, 16, ci1, by decide, (gm1 (List.mem_of_getElem? (i := 200) rfl) rfl), Or.inl rfl⟩
theorem fp_RX2_149_1 : FP RX2 149 1 11 := ⟨RX1, RX1, TX1, 16, ci1, by decide, (gm1 (List.mem_of_getElem? (i := 197) rfl) rfl), Or.inl rfl, rfl⟩
theorem fl_RX2_155_1 : FL RX2 155 1 14 := ⟨RX1, RX1, TX1, 16, ci1, by decide, (gm1 (List.mem_of_getElem? (i := 207) rfl) rfl), Or.inl rfl⟩
theorem fl_RX2_159_4 : FL RX2 159 4 0 := ⟨RX4, RX4, TX4, 6, ci4, by decide, (gm1 (List.mem_of_getElem? (i := 106) rfl) rfl), Or.inl rfl⟩
theorem yl_X7_readRaft : YL yX7_readRaft cX7_readRaft 3 (some .int) 1 := ⟨(gm4 (List.mem_of_getElem? (i := 2) rfl) rfl), (gm1 (List.mem_of_getElem? (i := 2) rfl) rfl), by decide, by decide, by decide +kernel⟩
theorem yl_X4_add : YL yX4_add cX4_add 5 none 4 := ⟨(gm4 (List.mem_of_getElem? (i := 19) rfl) rfl), (gm1 (List.mem_of_getElem? (i := 9) rfl) rfl), by decide, by decide, by decide +kernel⟩
theorem fl_RX2_179_4 : FL RX2 179 4 5 := ⟨RX4, RX4, TX4, 6, ci4, by decide, (gm1 (List.mem_of_getElem? (i := 117) rfl) rfl), Or.inl rfl⟩
theorem fl_RX2_182_1 : FL RX2 182 1 15 := ⟨RX1, RX1, TX1, 16, ci1, by decide, (gm1 (List.mem_of_getElem? (i := 212) rfl) rfl), Or.inl rfl⟩
theorem fl_RX2_186_9 : FL RX2 186 9 0 := ⟨RX10, RX10, TX10, 5, ci9, by decide, (gm1 (List.mem_of_getElem? (i := 143) rfl) rfl), Or.inl rfl⟩
theorem yl_X10_add : YL yX10_add cX10_add 5 none 4 := ⟨(gm4 (List.mem_of_getElem? (i := 39) rfl) rfl), (gm1 (List.mem_of_getElem? (i := 10) rfl) rfl), by decide, by decide, by decide +kernel⟩
theorem yl_X2_countWant : YL yX2_countWant cX2_countWant 1 none 0 := ⟨(gm4 (List.mem_of_getElem? (i := 31) rfl) rfl), (gm1 (List.mem_of_getElem? (i := 3) rfl) rfl), by decide, by decide, by decide +kernel⟩
theorem yl_X2_addWant : YL yX2_addWant cX2_addWant 5 none 4 := ⟨(gm4 (List.mem_of_getElem? (i := 35) rfl) rfl), (gm1 (List.mem_of_getElem? (i := 3) rfl) rfl), by decide, by decide, by decide +kernel⟩
theorem yl_X7_readSide : YL yX7_readSide cX7_readSide 1 (some .int) 0 := ⟨(gm4 (List.mem_of_getElem? (i := 49) rfl) rfl), (gm1 (List.mem_of_getElem? (i := 2) rfl) rfl), by decide, by decide, by decide +kernel⟩
theorem fl_RX2_199_1 : FL RX2 199 1 13 := ⟨RX1, RX1, TX1, 16, ci1, by decide, (gm1 (List.mem_of_getElem? (i := 203) rfl) rfl), Or.inl rfl⟩
theorem fp_RX2_199_1 : FP RX2 199 1 13 := ⟨RX1, RX1, TX1, 16, ci1, by decide, (gm1 (List.mem_of_getElem? (i := 203) rfl) rfl), Or.inl rfl, rfl⟩
theorem yl_X7_begin : YL yX7_begin cX7_begin 4 none 3 := ⟨(gm3 (List.mem_of_getElem? (i := 120) rfl) rfl), (gm1 (List.mem_of_getElem? (i := 2) rfl) rfl), by decide, by decide, by decide +kernel⟩
theorem yl_X1_empty : YL yX1_empty cX1_empty 1 none 0 := ⟨(gm3 (List.mem_of_getElem? (i := 127) rfl) rfl), (gm1 (List.mem_of_getElem? (i := 8) rfl) rfl), by decide, by decide, by decide +kernel⟩
theorem yl_X7_goesOn : YL yX7_goesOn cX7_goesOn 1 (some .boolean) 0 := ⟨(gm3 (List.mem_of_getElem? (i := 141) rfl) rfl), (gm1 (List.mem_of_getElem? (i := 2) rfl) rfl), by decide, by decide, by decide +kernel⟩
theorem fl_RX2_33_2 : FL RX2 33 2 9 := ⟨RX2, RX2, TX2, 14, ci2, by decide, (gm2 (List.mem_of_getElem? (i := 26) rfl) rfl), Or.inr (gm2 (List.mem_of_getElem? (i := 27) rfl) rfl)⟩
theorem yl_X2_readRow : YL yX2_readRow cX2_readRow 1 none 0 := ⟨(gm3 (List.mem_of_getElem? (i := 165) rfl) rfl), (gm1 (List.mem_of_getElem? (i := 3) rfl) rfl), by decide, by decide, by decide +kernel⟩
theorem yl_X2_readTide : YL yX2_readTide cX2_readTide 3 none 0 := ⟨(gm3 (List.mem_of_getElem? (i := 181) rfl) rfl), (gm1 (List.mem_of_getElem? (i := 3) rfl) rfl), by decide, by decide, by decide +kernel⟩
theorem yl_X2_readNewRaft : YL yX2_readNewRaft cX2_readNewRaft 2 none 0 := ⟨(gm3 (List.mem_of_getElem? (i := 191) rfl) rfl), (gm1 (List.mem_of_getElem? (i := 3) rfl) rfl), by decide, by decide, by decide +kernel⟩
theorem yl_X2_readPole : YL yX2_readPole cX2_readPole 3 none 0 := ⟨(gm3 (List.mem_of_getElem? (i := 232) rfl) rfl), (gm1 (List.mem_of_getElem? (i := 3) rfl) rfl), by decide, by decide, by decide +kernel⟩
theorem yl_X2_readRope : YL yX2_readRope cX2_readRope 5 none 0 := ⟨(gm3 (List.mem_of_getElem? (i := 236) rfl) rfl), (gm1 (List.mem_of_getElem? (i := 3) rfl) rfl), by decide, by decide, by decide +kernel⟩
theorem yl_X2_readMoor : YL yX2_readMoor cX2_readMoor 3 none 0 := ⟨(gm4 (List.mem_of_getElem? (i := 23) rfl) rfl), (gm1 (List.mem_of_getElem? (i := 3) rfl) rfl), by decide, by decide, by decide +kernel⟩
theorem yl_X2_readPairWant : YL yX2_readPairWant cX2_readPairWant 4 none 1 := ⟨(gm4 (List.mem_of_getElem? (i := 27) rfl) rfl), (gm1 (List.mem_of_getElem? (i := 3) rfl) rfl), by decide, by decide, by decide +kernel⟩
theorem yl_X2_readSun : YL yX2_readSun cX2_readSun 2 none 0 := ⟨(gm4 (List.mem_of_getElem? (i := 43) rfl) rfl), (gm1 (List.mem_of_getElem? (i := 3) rfl) rfl), by decide, by decide, by decide +kernel⟩
theorem yl_X2_readLies : YL yX2_readLies cX2_readLies 2 none 0 := ⟨(gm4 (List.mem_of_getElem? (i := 53) rfl) rfl), (gm1 (List.mem_of_getElem? (i := 3) rfl) rfl), by decide, by decide, by decide +kernel⟩
theorem yl_X2_readSquare : YL yX2_readSquare cX2_readSquare 4 none 0 := ⟨(gm4 (List.mem_of_getElem? (i := 57) rfl) rfl), (gm1 (List.mem_of_getElem? (i := 3) rfl) rfl), by decide, by decide, by decide +kernel⟩
theorem yl_X7_readStop : YL yX7_readStop cX7_readStop 1 none 0 := ⟨(gm4 (List.mem_of_getElem? (i := 64) rfl) rfl), (gm1 (List.mem_of_getElem? (i := 2) rfl) rfl), by decide, by decide, by decide +kernel⟩
theorem fl_RX3_37_3 : FL RX3 37 3 9 := ⟨RX3, RX3, TX3, 15, ci3, by decide, (gm2 (List.mem_of_getElem? (i := 28) rfl) rfl), Or.inr (gm2 (List.mem_of_getElem? (i := 29) rfl) rfl)⟩
theorem fl_RX3_22_3 : FL RX3 22 3 12 := ⟨RX3, RX3, TX3, 15, ci3, by decide, (gm2 (List.mem_of_getElem? (i := 77) rfl) rfl), Or.inl rfl⟩
theorem fl_RX3_15_3 : FL RX3 15 3 14 := ⟨RX3, RX3, TX3, 15, ci3, by decide, (gm2 (List.mem_of_getElem? (i := 80) rfl) rfl), Or.inl rfl⟩
theorem fl_RX3_9_3 : FL RX3 9 3 13 := ⟨RX3, RX3, TX3, 15, ci3, by decide, (gm2 (List.mem_of_getElem? (i := 78) rfl) rfl), Or.inl rfl⟩
theorem fp_RX3_22_3 : FP RX3 22 3 12 := ⟨RX3, RX3, TX3, 15, ci3, by decide, (gm2 (List.mem_of_getElem? (i := 77) rfl) rfl), Or.inl rfl, rfl⟩
theorem yl_X3_readAct : YL yX3_readAct cX3_readAct 4 none 1 := ⟨(gm5 (List.mem_of_getElem? (i := 1) rfl) rfl), (gm1 (List.mem_of_getElem? (i := 12) rfl) rfl), by decide, by decide, by decide +kernel⟩
theorem ff_RX8_9_7 : FF RX8 9 7 1 := ⟨RX8, RX8, TX8, 3, ci7, by decide, (gm2 (List.mem_of_getElem? (i := 117) rfl) rfl), Or.inl rfl, rfl, rfl⟩
theorem ff_RX8_15_7 : FF RX8 15 7 2 := ⟨RX8, RX8, TX8, 3, ci7, by decide, (gm2 (List.mem_of_getElem? (i := 121) rfl) rfl), Or.inl rfl, rfl, rfl⟩
theorem fp_RX8_19_7 : FP RX8 19 7 0 := ⟨RX8, RX8, TX8, 3, ci7, by decide, (gm2 (List.mem_of_getElem? (i := 115) rfl) rfl), Or.inl rfl, rfl⟩
theorem nl_RX5_9 : NL RX5 9 1 := ⟨RX1, TX1, 16, ci1, (gm2 (List.mem_of_getElem? (i := 107) rfl) rfl), (gm1 (List.mem_of_getElem? (i := 93) rfl) rfl), (gm1 (List.mem_of_getElem? (i := 8) rfl) rfl), by decide⟩
theorem yl_X1_init : YL yX1_init cX1_init 1 none 0 := ⟨(gm1 (List.mem_of_getElem? (i := 96) rfl) rfl), (gm1 (List.mem_of_getElem? (i := 8) rfl) rfl), by decide, by decide, by decide +kernel⟩
theorem fp_RX5_12_5 : FP RX5 12 5 0 := ⟨RX5, RX5, TX5, 5, ci5, by decide, (gm2 (List.mem_of_getElem? (i := 130) rfl) rfl), Or.inl rfl, rfl⟩
theorem nl_RX5_18 : NL RX5 18 7 := ⟨RX8, TX8, 3, ci7, (gm2 (List.mem_of_getElem? (i := 109) rfl) rfl), (gm2 (List.mem_of_getElem? (i := 110) rfl) rfl), (gm1 (List.mem_of_getElem? (i := 14) rfl) rfl), by decide⟩
theorem fl_RX5_12_5 : FL RX5 12 5 0 := ⟨RX5, RX5, TX5, 5, ci5, by decide, (gm2 (List.mem_of_getElem? (i := 130) rfl) rfl), Or.inl rfl⟩
theorem yl_X8_init : YL yX8_init cX8_init 2 none 1 := ⟨(gm2 (List.mem_of_getElem? (i := 113) rfl) rfl), (gm1 (List.mem_of_getElem? (i := 14) rfl) rfl), by decide, by decide, by decide +kernel⟩
theorem ff_RX5_23_5 : FF RX5 23 5 1 := ⟨RX5, RX5, TX5, 5, ci5, by decide, (gm2 (List.mem_of_getElem? (i := 132) rfl) rfl), Or.inl rfl, rfl, rfl⟩
theorem ff_RX5_27_5 : FF RX5 27 5 3 := ⟨RX5, RX5, TX5, 5, ci5, by decide, (gm2 (List.mem_of_getElem? (i := 137) rfl) rfl), Or.inl rfl, rfl, rfl⟩
theorem ff_RX5_31_5 : FF RX5 31 5 4 := ⟨RX5, RX5, TX5, 5, ci5, by decide, (gm2 (List.mem_of_getElem? (i := 140) rfl) rfl), Or.inl rfl, rfl, rfl⟩
theorem fl_RX8_9_7 : FL RX8 9 7 1 := ⟨RX8, RX8, TX8, 3, ci7, by decide, (gm2 (List.mem_of_getElem? (i := 117) rfl) rfl), Or.inl rfl⟩
theorem fl_RX8_15_7 : FL RX8 15 7 2 := ⟨RX8, RX8, TX8, 3, ci7, by decide, (gm2 (List.mem_of_getElem? (i := 121) rfl) rfl), Or.inl rfl⟩
theorem fl_RX8_19_7 : FL RX8 19 7 0 := ⟨RX8, RX8, TX8, 3, ci7, by decide, (gm2 (List.mem_of_getElem? (i := 115) rfl) rfl), Or.inl rfl⟩
theorem fl_RX8_23_1 : FL RX8 23 1 5 := ⟨RX1, RX1, TX1, 16, ci1, by decide, (gm1 (List.mem_of_getElem? (i := 176) rfl) rfl), Or.inl rfl⟩
theorem fl_RX8_29_1 : FL RX8 29 1 10 := ⟨RX1, RX1, TX1, 16, ci1, by decide, (gm1 (List.mem_of_getElem? (i := 194) rfl) rfl), Or.inl rfl⟩
theorem yl_X8_put : YL yX8_put cX8_put 3 none 2 := ⟨(gm4 (List.mem_of_getElem? (i := 76) rfl) rfl), (gm1 (List.mem_of_getElem? (i := 14) rfl) rfl), by decide, by decide, by decide +kernel⟩
theorem fl_RX5_23_5 : FL RX5 23 5 1 := ⟨RX5, RX5, TX5, 5, ci5, by decide, (gm2 (List.mem_of_getElem? (i := 132) rfl) rfl), Or.inl rfl⟩
theorem yl_X8_settle : YL yX8_settle cX8_settle 3 none 1 := ⟨(gm4 (List.mem_of_getElem? (i := 72) rfl) rfl), (gm1 (List.mem_of_getElem? (i := 14) rfl) rfl), by decide, by decide, by decide +kernel⟩
theorem fp_RX5_37_5 : FP RX5 37 5 2 := ⟨RX5, RX5, TX5, 5, ci5, by decide, (gm2 (List.mem_of_getElem? (i := 134) rfl) rfl), Or.inl rfl, rfl⟩
theorem fl_RX5_37_5 : FL RX5 37 5 2 := ⟨RX5, RX5, TX5, 5, ci5, by decide, (gm2 (List.mem_of_getElem? (i := 134) rfl) rfl), Or.inl rfl⟩
theorem fl_RX5_27_5 : FL RX5 27 5 3 := ⟨RX5, RX5, TX5, 5, ci5, by decide, (gm2 (List.mem_of_getElem? (i := 137) rfl) rfl), Or.inl rfl⟩
theorem fl_RX5_31_5 : FL RX5 31 5 4 := ⟨RX5, RX5, TX5, 5, ci5, by decide, (gm2 (List.mem_of_getElem? (i := 140) rfl) rfl), Or.inl rfl⟩
theorem yl_X1_copy : YL yX1_copy cX1_copy 2 none 1 := ⟨(gm6 (List.mem_of_getElem? (i := 77) rfl) rfl), (gm1 (List.mem_of_getElem? (i := 8) rfl) rfl), by decide, by decide, by decide +kernel⟩
theorem yl_X8_follow : YL yX8_follow cX8_follow 3 none 2 := ⟨(gm4 (List.mem_of_getElem? (i := 119) rfl) rfl), (gm1 (List.mem_of_getElem? (i := 14) rfl) rfl), by decide, by decide, by decide +kernel⟩
theorem yl_X5_setActs : YL yX5_setActs cX5_setActs 5 none 3 := ⟨(gm5 (List.mem_of_getElem? (i := 20) rfl) rfl), (gm1 (List.mem_of_getElem? (i := 13) rfl) rfl), by decide, by decide, by decide +kernel⟩
theorem dX7_goesOn_0 : decode cX7_goesOn 0 = .ok (.aload_n 0, 1) := by decide +kernel
theorem dX7_goesOn_1 : decode cX7_goesOn 1 = .ok (.invokevirtual 74, 3) := by decide +kernel
theorem dX7_goesOn_4 : decode cX7_goesOn 4 = .ok (.aload_n 0, 1) := by decide +kernel
theorem dX7_goesOn_5 : decode cX7_goesOn 5 = .ok (.getfield 49, 3) := by decide +kernel
theorem dX7_goesOn_8 : decode cX7_goesOn 8 = .ok (.ifCond .ne 27, 3) := by decide +kernel
theorem dX7_goesOn_11 : decode cX7_goesOn 11 = .ok (.aload_n 0, 1) := by decide +kernel
theorem dX7_goesOn_12 : decode cX7_goesOn 12 = .ok (.getfield 61, 3) := by decide +kernel
theorem dX7_goesOn_15 : decode cX7_goesOn 15 = .ok (.iconst 4, 1) := by decide +kernel
theorem dX7_goesOn_16 : decode cX7_goesOn 16 = .ok (.if_icmp .ne 19, 3) := by decide +kernel
theorem dX7_goesOn_19 : decode cX7_goesOn 19 = .ok (.aload_n 0, 1) := by decide +kernel
theorem dX7_goesOn_20 : decode cX7_goesOn 20 = .ok (.getfield 37, 3) := by decide +kernel
theorem dX7_goesOn_23 : decode cX7_goesOn 23 = .ok (.aload_n 0, 1) := by decide +kernel
theorem dX7_goesOn_24 : decode cX7_goesOn 24 = .ok (.getfield 40, 3) := by decide +kernel
theorem dX7_goesOn_27 : decode cX7_goesOn 27 = .ok (.if_icmp .le 8, 3) := by decide +kernel
theorem dX7_goesOn_30 : decode cX7_goesOn 30 = .ok (.aload_n 0, 1) := by decide +kernel
theorem dX7_goesOn_31 : decode cX7_goesOn 31 = .ok (.iconst 1, 1) := by decide +kernel
theorem dX7_goesOn_32 : decode cX7_goesOn 32 = .ok (.invokevirtual 77, 3) := by decide +kernel
theorem dX7_goesOn_35 : decode cX7_goesOn 35 = .ok (.aload_n 0, 1) := by decide +kernel
theorem dX7_goesOn_36 : decode cX7_goesOn 36 = .ok (.getfield 49, 3) := by decide +kernel
theorem dX7_goesOn_39 : decode cX7_goesOn 39 = .ok (.ifCond .ne 15, 3) := by decide +kernel
theorem dX7_goesOn_42 : decode cX7_goesOn 42 = .ok (.aload_n 0, 1) := by decide +kernel
theorem dX7_goesOn_43 : decode cX7_goesOn 43 = .ok (.getfield 61, 3) := by decide +kernel
theorem dX7_goesOn_46 : decode cX7_goesOn 46 = .ok (.iconst 4, 1) := by decide +kernel
theorem dX7_goesOn_47 : decode cX7_goesOn 47 = .ok (.if_icmp .eq 7, 3) := by decide +kernel
theorem dX7_goesOn_50 : decode cX7_goesOn 50 = .ok (.iconst 1, 1) := by decide +kernel
theorem dX7_goesOn_51 : decode cX7_goesOn 51 = .ok (.goto 4, 3) := by decide +kernel
theorem dX7_goesOn_54 : decode cX7_goesOn 54 = .ok (.iconst 0, 1) := by decide +kernel
theorem dX7_goesOn_55 : decode cX7_goesOn 55 = .ok (.ireturn, 1) := by decide +kernel
def wb_X7_goesOn_35 (ci : Nat)  (h : AH) (al0 : Nat)  (post : AH → Int32 → Prop) : Prop := (ob h al0 ci) ∧ ((¬ (aI h al0 10) = 0 → (((0 : Int32) = 0 ∨ (0 : Int32) = 1) ∧ post h 0)) ∧ ((aI h al0 10) = 0 → ((ob h al0 ci) ∧ (((aI h al0 6) = 4 → (((0 : Int32) = 0 ∨ (0 : Int32) = 1) ∧ post h 0)) ∧ (¬ (aI h al0 6) = 4 → (((1 : Int32) = 0 ∨ (1 : Int32) = 1) ∧ post h 1))))))
set_option maxRecDepth 100000 in
theorem tb_X7_goesOn_35 {ci : Nat} (hci : ci = 2 ∨ ci = 3) {G : GG} {p : Program} {l : Launch} {e : Env} {R : Room} {s : State} {m : MethodId} {args : Array Value} {below : List Frame} {meth : Method} {c : Code} {n0 s0 : Nat} {post : AH → Int32 → Prop} (C : Cx G p R s m args meth c 1 cX7_goesOn RX7 n0 s0 2 44) (hr : meth.sig.returnType = (some .boolean))   {h : AH} {al0 : Nat}  (hw : wb_X7_goesOn_35 ci  h al0 post) : AW G p l e R s m args below meth c 1 (QM G (pI post) args s below n0 s0) 35 [(0, .ref (G.1 + al0))] [] h := by
  unfold wb_X7_goesOn_35 at hw
  rcases hci with rfl | rfl
  · refine r_aload_n C dX7_goesOn_35 0 rfl ?_
    refine r_getI C fl_RX7_49_2 hw.1 (fun _ _ _ => rfl) dX7_goesOn_36 ?_
    replace hw := hw.2
    refine r_if_ne C dX7_goesOn_39 54 (by decide) (fun hc => ?_) (fun hc => ?_)
    · replace hw := hw.1 hc
      refine r_iconst (v := 0) C dX7_goesOn_54 (by decide) ?_
      exact r_zret C hr dX7_goesOn_55 hw.1 hw.2
    · replace hw := hw.2 hc
      refine r_aload_n C dX7_goesOn_42 0 rfl ?_
      refine r_getI C fl_RX7_61_2 hw.1 (fun _ _ _ => rfl) dX7_goesOn_43 ?_
      replace hw := hw.2
      refine r_iconst (v := 4) C dX7_goesOn_46 (by decide) ?_
      refine r_icmp_eq C dX7_goesOn_47 54 (by decide) (fun hc => ?_) (fun hc => ?_)
      · replace hw := hw.1 hc
        refine r_iconst (v := 0) C dX7_goesOn_54 (by decide) ?_
        exact r_zret C hr dX7_goesOn_55 hw.1 hw.2
      · replace hw := hw.2 hc
        refine r_iconst (v := 1) C dX7_goesOn_50 (by decide) ?_
        refine r_goto C dX7_goesOn_51 55 (by decide) ?_
        exact r_zret C hr dX7_goesOn_55 hw.1 hw.2
  · refine r_aload_n C dX7_goesOn_35 0 rfl ?_
    refine r_getI C fl_RX7_49_3 hw.1 (fun _ _ _ => rfl) dX7_goesOn_36 ?_
    replace hw := hw.2
    refine r_if_ne C dX7_goesOn_39 54 (by decide) (fun hc => ?_) (fun hc => ?_)
    · replace hw := hw.1 hc
      refine r_iconst (v := 0) C dX7_goesOn_54 (by decide) ?_
      exact r_zret C hr dX7_goesOn_55 hw.1 hw.2
    · replace hw := hw.2 hc
      refine r_aload_n C dX7_goesOn_42 0 rfl ?_
      refine r_getI C fl_RX7_61_3 hw.1 (fun _ _ _ => rfl) dX7_goesOn_43 ?_
      replace hw := hw.2
      refine r_iconst (v := 4) C dX7_goesOn_46 (by decide) ?_
      refine r_icmp_eq C dX7_goesOn_47 54 (by decide) (fun hc => ?_) (fun hc => ?_)
      · replace hw := hw.1 hc
        refine r_iconst (v := 0) C dX7_goesOn_54 (by decide) ?_
        exact r_zret C hr dX7_goesOn_55 hw.1 hw.2
      · replace hw := hw.2 hc
        refine r_iconst (v := 1) C dX7_goesOn_50 (by decide) ?_
        refine r_goto C dX7_goesOn_51 55 (by decide) ?_
        exact r_zret C hr dX7_goesOn_55 hw.1 hw.2
def wp_X7_goesOn (ci : Nat) (h : AH) (a0 : Nat) (post : AH → Int32 → Prop) : Prop := (ob h a0 ci) ∧ wp_X7_advance ci h a0  (fun hv1  => (ob hv1 a0 ci) ∧ ((¬ (aI hv1 a0 10) = 0 → (wb_X7_goesOn_35 ci  hv1 a0 post)) ∧ ((aI hv1 a0 10) = 0 → ((ob hv1 a0 ci) ∧ ((¬ (aI hv1 a0 6) = 4 → (wb_X7_goesOn_35 ci  hv1 a0 post)) ∧ ((aI hv1 a0 6) = 4 → ((ob hv1 a0 ci) ∧ ((ob hv1 a0 ci) ∧ (((aI hv1 a0 2) ≤ (aI hv1 a0 3) → (wb_X7_goesOn_35 ci  hv1 a0 post)) ∧ (¬ (aI hv1 a0 2) ≤ (aI hv1 a0 3) → ((ob hv1 a0 ci) ∧ wp_X7_fail ci hv1 a0 1 (fun hv2  => wb_X7_goesOn_35 ci  hv2 a0 post))))))))))))
set_option maxRecDepth 100000 in
theorem c_X7_goesOn {ci : Nat} (hci : ci = 2 ∨ ci = 3) (G : GG) (h : AH) (a0 : Nat) (post : AH → Int32 → Prop) (hw : wp_X7_goesOn ci h a0 post) : MC G yX7_goesOn cX7_goesOn 1 (some .boolean) 2 44 h [.ref (G.1 + a0)] (pI post) := by
  refine MC.of (lv := [(0, .ref (G.1 + a0))]) (by decide) (Nat.le_of_ble_eq_true rfl) rfl fun p l e R s m args below meth c C hr hnm => ?_
  unfold wp_X7_goesOn at hw
  rcases hci with rfl | rfl
  · refine r_aload_n C dX7_goesOn_0 0 rfl ?_
    have hob := hw.1
    replace hw := hw.2
    refine r_callV C (As := []) (rest := []) (c_X7_advance (by decide) G h a0  _ hw) yl_X7_advance (gm3 (List.mem_of_getElem? (i := 142) rfl) rfl) (gm3 (List.mem_of_getElem? (i := 143) rfl) rfl) (ci := 2) rfl (by decide) (gm3 (List.mem_of_getElem? (i := 145) rfl) rfl) hob (by decide) rfl (Nat.le_of_ble_eq_true rfl) dX7_goesOn_1 rfl (kV fun hv1  hw => ?_)
    refine r_aload_n C dX7_goesOn_4 0 rfl ?_
    refine r_getI C fl_RX7_49_2 hw.1 (fun _ _ _ => rfl) dX7_goesOn_5 ?_
    replace hw := hw.2
    refine r_if_ne C dX7_goesOn_8 35 (by decide) (fun hc => ?_) (fun hc => ?_)
    · replace hw := hw.1 hc
      refine r_sub [0] rfl ?_
      exact tb_X7_goesOn_35 (by decide) C hr  hw
    · replace hw := hw.2 hc
      refine r_aload_n C dX7_goesOn_11 0 rfl ?_
      refine r_getI C fl_RX7_61_2 hw.1 (fun _ _ _ => rfl) dX7_goesOn_12 ?_
      replace hw := hw.2
      refine r_iconst (v := 4) C dX7_goesOn_15 (by decide) ?_
      refine r_icmp_ne C dX7_goesOn_16 35 (by decide) (fun hc => ?_) (fun hc => ?_)
      · replace hw := hw.1 hc
        refine r_sub [0] rfl ?_
        exact tb_X7_goesOn_35 (by decide) C hr  hw
      · replace hw := hw.2 hc
        refine r_aload_n C dX7_goesOn_19 0 rfl ?_
        refine r_getI C fl_RX7_37_2 hw.1 (fun _ _ _ => rfl) dX7_goesOn_20 ?_
        replace hw := hw.2
        refine r_aload_n C dX7_goesOn_23 0 rfl ?_
        refine r_getI C fl_RX7_40_2 hw.1 (fun _ _ _ => rfl) dX7_goesOn_24 ?_
        replace hw := hw.2
        refine r_icmp_le C dX7_goesOn_27 35 (by decide) (fun hc => ?_) (fun hc => ?_)
        · replace hw := hw.1 hc
          refine r_sub [0] rfl ?_
          exact tb_X7_goesOn_35 (by decide) C hr  hw
        · replace hw := hw.2 hc
          refine r_aload_n C dX7_goesOn_30 0 rfl ?_
          refine r_iconst (v := 1) C dX7_goesOn_31 (by decide) ?_
          have hob := hw.1
          replace hw := hw.2
          refine r_callV C (As := [.int 1]) (rest := []) (c_X7_fail (by decide) G hv1 a0 1 _ hw) yl_X7_fail (gm3 (List.mem_of_getElem? (i := 156) rfl) rfl) (gm3 (List.mem_of_getElem? (i := 157) rfl) rfl) (ci := 2) rfl (by decide) (gm3 (List.mem_of_getElem? (i := 159) rfl) rfl) hob (by decide) rfl (Nat.le_of_ble_eq_true rfl) dX7_goesOn_32 rfl (kV fun hv2  hw => ?_)
          refine r_sub [0] rfl ?_
          exact tb_X7_goesOn_35 (by decide) C hr  hw
  · refine r_aload_n C dX7_goesOn_0 0 rfl ?_
    have hob := hw.1
    replace hw := hw.2
    refine r_callV C (As := []) (rest := []) (c_X7_advance (by decide) G h a0  _ hw) yl_X7_advance (gm3 (List.mem_of_getElem? (i := 142) rfl) rfl) (gm3 (List.mem_of_getElem? (i := 143) rfl) rfl) (ci := 3) rfl (by decide) (gm3 (List.mem_of_getElem? (i := 146) rfl) rfl) hob (by decide) rfl (Nat.le_of_ble_eq_true rfl) dX7_goesOn_1 rfl (kV fun hv1  hw => ?_)
    refine r_aload_n C dX7_goesOn_4 0 rfl ?_
    refine r_getI C fl_RX7_49_3 hw.1 (fun _ _ _ => rfl) dX7_goesOn_5 ?_
    replace hw := hw.2
    refine r_if_ne C dX7_goesOn_8 35 (by decide) (fun hc => ?_) (fun hc => ?_)
    · replace hw := hw.1 hc
      refine r_sub [0] rfl ?_
      exact tb_X7_goesOn_35 (by decide) C hr  hw
    · replace hw := hw.2 hc
      refine r_aload_n C dX7_goesOn_11 0 rfl ?_
      refine r_getI C fl_RX7_61_3 hw.1 (fun _ _ _ => rfl) dX7_goesOn_12 ?_
      replace hw := hw.2
      refine r_iconst (v := 4) C dX7_goesOn_15 (by decide) ?_
      refine r_icmp_ne C dX7_goesOn_16 35 (by decide) (fun hc => ?_) (fun hc => ?_)
      · replace hw := hw.1 hc
        refine r_sub [0] rfl ?_
        exact tb_X7_goesOn_35 (by decide) C hr  hw
      · replace hw := hw.2 hc
        refine r_aload_n C dX7_goesOn_19 0 rfl ?_
        refine r_getI C fl_RX7_37_3 hw.1 (fun _ _ _ => rfl) dX7_goesOn_20 ?_
        replace hw := hw.2
        refine r_aload_n C dX7_goesOn_23 0 rfl ?_
        refine r_getI C fl_RX7_40_3 hw.1 (fun _ _ _ => rfl) dX7_goesOn_24 ?_
        replace hw := hw.2
        refine r_icmp_le C dX7_goesOn_27 35 (by decide) (fun hc => ?_) (fun hc => ?_)
        · replace hw := hw.1 hc
          refine r_sub [0] rfl ?_
          exact tb_X7_goesOn_35 (by decide) C hr  hw
        · replace hw := hw.2 hc
          refine r_aload_n C dX7_goesOn_30 0 rfl ?_
          refine r_iconst (v := 1) C dX7_goesOn_31 (by decide) ?_
          have hob := hw.1
          replace hw := hw.2
          refine r_callV C (As := [.int 1]) (rest := []) (c_X7_fail (by decide) G hv1 a0 1 _ hw) yl_X7_fail (gm3 (List.mem_of_getElem? (i := 156) rfl) rfl) (gm3 (List.mem_of_getElem? (i := 157) rfl) rfl) (ci := 3) rfl (by decide) (gm3 (List.mem_of_getElem? (i := 160) rfl) rfl) hob (by decide) rfl (Nat.le_of_ble_eq_true rfl) dX7_goesOn_32 rfl (kV fun hv2  hw => ?_)
          refine r_sub [0] rfl ?_
          exact tb_X7_goesOn_35 (by decide) C hr  hw
theorem dX2_readRow_0 : decode cX2_readRow 0 = .ok (.aload_n 0, 1) := by decide +kernel
theorem dX2_readRow_1 : decode cX2_readRow 1 = .ok (.getfield 12, 3) := by decide +kernel
theorem dX2_readRow_4 : decode cX2_readRow 4 = .ok (.getfield 75, 3) := by decide +kernel
theorem dX2_readRow_7 : decode cX2_readRow 7 = .ok (.bipush 8, 2) := by decide +kernel
theorem dX2_readRow_9 : decode cX2_readRow 9 = .ok (.if_icmp .lt 8, 3) := by decide +kernel
theorem dX2_readRow_12 : decode cX2_readRow 12 = .ok (.aload_n 0, 1) := by decide +kernel
theorem dX2_readRow_13 : decode cX2_readRow 13 = .ok (.iconst 4, 1) := by decide +kernel
theorem dX2_readRow_14 : decode cX2_readRow 14 = .ok (.invokevirtual 69, 3) := by decide +kernel
theorem dX2_readRow_17 : decode cX2_readRow 17 = .ok (.aload_n 0, 1) := by decide +kernel
theorem dX2_readRow_18 : decode cX2_readRow 18 = .ok (.invokevirtual 78, 3) := by decide +kernel
theorem dX2_readRow_21 : decode cX2_readRow 21 = .ok (.aload_n 0, 1) := by decide +kernel
theorem dX2_readRow_22 : decode cX2_readRow 22 = .ok (.getfield 81, 3) := by decide +kernel
theorem dX2_readRow_25 : decode cX2_readRow 25 = .ok (.iconst 2, 1) := by decide +kernel
theorem dX2_readRow_26 : decode cX2_readRow 26 = .ok (.if_icmp .eq 11, 3) := by decide +kernel
theorem dX2_readRow_29 : decode cX2_readRow 29 = .ok (.aload_n 0, 1) := by decide +kernel
theorem dX2_readRow_30 : decode cX2_readRow 30 = .ok (.iconst 1, 1) := by decide +kernel
theorem dX2_readRow_31 : decode cX2_readRow 31 = .ok (.invokevirtual 69, 3) := by decide +kernel
theorem dX2_readRow_34 : decode cX2_readRow 34 = .ok (.goto 32, 3) := by decide +kernel
theorem dX2_readRow_37 : decode cX2_readRow 37 = .ok (.aload_n 0, 1) := by decide +kernel
theorem dX2_readRow_38 : decode cX2_readRow 38 = .ok (.getfield 12, 3) := by decide +kernel
theorem dX2_readRow_41 : decode cX2_readRow 41 = .ok (.getfield 75, 3) := by decide +kernel
theorem dX2_readRow_44 : decode cX2_readRow 44 = .ok (.ifCond .le 22, 3) := by decide +kernel
theorem dX2_readRow_47 : decode cX2_readRow 47 = .ok (.aload_n 0, 1) := by decide +kernel
theorem dX2_readRow_48 : decode cX2_readRow 48 = .ok (.getfield 84, 3) := by decide +kernel
theorem dX2_readRow_51 : decode cX2_readRow 51 = .ok (.aload_n 0, 1) := by decide +kernel
theorem dX2_readRow_52 : decode cX2_readRow 52 = .ok (.getfield 12, 3) := by decide +kernel
theorem dX2_readRow_55 : decode cX2_readRow 55 = .ok (.getfield 87, 3) := by decide +kernel
theorem dX2_readRow_58 : decode cX2_readRow 58 = .ok (.if_icmp .eq 8, 3) := by decide +kernel
theorem dX2_readRow_61 : decode cX2_readRow 61 = .ok (.aload_n 0, 1) := by decide +kernel
theorem dX2_readRow_62 : decode cX2_readRow 62 = .ok (.iconst 2, 1) := by decide +kernel
theorem dX2_readRow_63 : decode cX2_readRow 63 = .ok (.invokevirtual 69, 3) := by decide +kernel
theorem dX2_readRow_66 : decode cX2_readRow 66 = .ok (.aload_n 0, 1) := by decide +kernel
theorem dX2_readRow_67 : decode cX2_readRow 67 = .ok (.getfield 90, 3) := by decide +kernel
theorem dX2_readRow_70 : decode cX2_readRow 70 = .ok (.ifCond .ne 18, 3) := by decide +kernel
theorem dX2_readRow_73 : decode cX2_readRow 73 = .ok (.aload_n 0, 1) := by decide +kernel
theorem dX2_readRow_74 : decode cX2_readRow 74 = .ok (.getfield 12, 3) := by decide +kernel
theorem dX2_readRow_77 : decode cX2_readRow 77 = .ok (.aload_n 0, 1) := by decide +kernel
theorem dX2_readRow_78 : decode cX2_readRow 78 = .ok (.getfield 93, 3) := by decide +kernel
theorem dX2_readRow_81 : decode cX2_readRow 81 = .ok (.aload_n 0, 1) := by decide +kernel
theorem dX2_readRow_82 : decode cX2_readRow 82 = .ok (.getfield 84, 3) := by decide +kernel
theorem dX2_readRow_85 : decode cX2_readRow 85 = .ok (.invokevirtual 96, 3) := by decide +kernel
theorem dX2_readRow_88 : decode cX2_readRow 88 = .ok (.return_, 1) := by decide +kernel
def wb_X2_readRow_66  (h : AH) (al0 : Nat)  (post : AH → Prop) : Prop := (ob h al0 2) ∧ ((¬ (aI h al0 10) = 0 → (post h)) ∧ ((aI h al0 10) = 0 → ((ob h al0 2) ∧ (∃ rv1, aP h al0 12 = some rv1 ∧ ((ob h al0 2) ∧ ((ob h al0 2) ∧ ((ob h rv1 1) ∧ wp_X1_addRow h rv1 (aI h al0 7) (aI h al0 8) (fun hv2  => post hv2))))))))
set_option maxRecDepth 100000 in
theorem tb_X2_readRow_66 {G : GG} {p : Program} {l : Launch} {e : Env} {R : Room} {s : State} {m : MethodId} {args : Array Value} {below : List Frame} {meth : Method} {c : Code} {n0 s0 : Nat} {post : AH → Prop} (C : Cx G p R s m args meth c 1 cX2_readRow RX2 n0 s0 2 44) (hr : meth.sig.returnType = none)   {h : AH} {al0 : Nat}  (hw : wb_X2_readRow_66  h al0 post) : AW G p l e R s m args below meth c 1 (QM G (pV post) args s below n0 s0) 66 [(0, .ref (G.1 + al0))] [] h := by
  unfold wb_X2_readRow_66 at hw
  refine r_aload_n C dX2_readRow_66 0 rfl ?_
  refine r_getI C fl_RX2_90_2 hw.1 (fun _ _ _ => rfl) dX2_readRow_67 ?_
  replace hw := hw.2
  refine r_if_ne C dX2_readRow_70 88 (by decide) (fun hc => ?_) (fun hc => ?_)
  · replace hw := hw.1 hc
    exact r_vret C hr dX2_readRow_88 hw
  · replace hw := hw.2 hc
    refine r_aload_n C dX2_readRow_73 0 rfl ?_
    have hob := hw.1
    obtain ⟨rv1, hp, hw⟩ := hw.2
    refine r_getP C fl_RX2_12_2 hob hp (fun _ _ _ => rfl) dX2_readRow_74 ?_
    refine r_aload_n C dX2_readRow_77 0 rfl ?_
    refine r_getI C fl_RX2_93_2 hw.1 (fun _ _ _ => rfl) dX2_readRow_78 ?_
    replace hw := hw.2
    refine r_aload_n C dX2_readRow_81 0 rfl ?_
    refine r_getI C fl_RX2_84_2 hw.1 (fun _ _ _ => rfl) dX2_readRow_82 ?_
    replace hw := hw.2
    have hob := hw.1
    replace hw := hw.2
    refine r_callV C (As := [.int (aI h al0 7), .int (aI h al0 8)]) (rest := []) (c_X1_addRow G h rv1 (aI h al0 7) (aI h al0 8) _ hw) yl_X1_addRow (gm3 (List.mem_of_getElem? (i := 174) rfl) rfl) (gm3 (List.mem_of_getElem? (i := 175) rfl) rfl) (ci := 1) rfl (by decide) (gm3 (List.mem_of_getElem? (i := 176) rfl) rfl) hob (by decide) rfl (Nat.le_of_ble_eq_true rfl) dX2_readRow_85 rfl (kV fun hv2  hw => ?_)
    exact r_vret C hr dX2_readRow_88 hw
def wb_X2_readRow_17  (h : AH) (al0 : Nat)  (post : AH → Prop) : Prop := (ob h al0 2) ∧ wp_X7_advance 2 h al0  (fun hv1  => (ob hv1 al0 2) ∧ (((aI hv1 al0 6) = 2 → ((ob hv1 al0 2) ∧ (∃ rv2, aP hv1 al0 12 = some rv2 ∧ ((ob hv1 rv2 1) ∧ (((aI hv1 rv2 1) ≤ 0 → (wb_X2_readRow_66  hv1 al0 post)) ∧ (¬ (aI hv1 rv2 1) ≤ 0 → ((ob hv1 al0 2) ∧ ((ob hv1 al0 2) ∧ (∃ rv3, aP hv1 al0 12 = some rv3 ∧ ((ob hv1 rv3 1) ∧ (((aI hv1 al0 8) = (aI hv1 rv3 0) → (wb_X2_readRow_66  hv1 al0 post)) ∧ (¬ (aI hv1 al0 8) = (aI hv1 rv3 0) → ((ob hv1 al0 2) ∧ wp_X7_fail 2 hv1 al0 2 (fun hv4  => wb_X2_readRow_66  hv4 al0 post)))))))))))))) ∧ (¬ (aI hv1 al0 6) = 2 → ((ob hv1 al0 2) ∧ wp_X7_fail 2 hv1 al0 1 (fun hv5  => wb_X2_readRow_66  hv5 al0 post)))))
set_option maxRecDepth 100000 in
theorem tb_X2_readRow_17 {G : GG} {p : Program} {l : Launch} {e : Env} {R : Room} {s : State} {m : MethodId} {args : Array Value} {below : List Frame} {meth : Method} {c : Code} {n0 s0 : Nat} {post : AH → Prop} (C : Cx G p R s m args meth c 1 cX2_readRow RX2 n0 s0 2 44) (hr : meth.sig.returnType = none)   {h : AH} {al0 : Nat}  (hw : wb_X2_readRow_17  h al0 post) : AW G p l e R s m args below meth c 1 (QM G (pV post) args s below n0 s0) 17 [(0, .ref (G.1 + al0))] [] h := by
  unfold wb_X2_readRow_17 at hw
  refine r_aload_n C dX2_readRow_17 0 rfl ?_
  have hob := hw.1
  replace hw := hw.2
  refine r_callU C (x := ⟨RX2, "advance", "()V"⟩) (As := []) (rest := []) (c_X7_advance (by decide) G h al0  _ hw) yl_X7_advance (gm3 (List.mem_of_getElem? (i := 170) rfl) rfl) (gm3 (List.mem_of_getElem? (i := 143) rfl) rfl) (ci := 2) rfl (by decide) (gm3 (List.mem_of_getElem? (i := 171) rfl) rfl) (gm3 (List.mem_of_getElem? (i := 173) rfl) rfl) rfl hob (by decide) rfl (Nat.le_of_ble_eq_true rfl) dX2_readRow_18 rfl (kV fun hv1  hw => ?_)
  refine r_aload_n C dX2_readRow_21 0 rfl ?_
  refine r_getI C fl_RX2_81_2 hw.1 (fun _ _ _ => rfl) dX2_readRow_22 ?_
  replace hw := hw.2
  refine r_iconst (v := 2) C dX2_readRow_25 (by decide) ?_
  refine r_icmp_eq C dX2_readRow_26 37 (by decide) (fun hc => ?_) (fun hc => ?_)
  · replace hw := hw.1 hc
    refine r_aload_n C dX2_readRow_37 0 rfl ?_
    have hob := hw.1
    obtain ⟨rv2, hp, hw⟩ := hw.2
    refine r_getP C fl_RX2_12_2 hob hp (fun _ _ _ => rfl) dX2_readRow_38 ?_
    refine r_getI C fl_RX2_75_1 hw.1 (fun _ _ _ => rfl) dX2_readRow_41 ?_
    replace hw := hw.2
    refine r_if_le C dX2_readRow_44 66 (by decide) (fun hc => ?_) (fun hc => ?_)
    · replace hw := hw.1 hc
      refine r_sub [0] rfl ?_
      exact tb_X2_readRow_66 C hr  hw
    · replace hw := hw.2 hc
      refine r_aload_n C dX2_readRow_47 0 rfl ?_
      refine r_getI C fl_RX2_84_2 hw.1 (fun _ _ _ => rfl) dX2_readRow_48 ?_
      replace hw := hw.2
      refine r_aload_n C dX2_readRow_51 0 rfl ?_
      have hob := hw.1
      obtain ⟨rv3, hp, hw⟩ := hw.2
      refine r_getP C fl_RX2_12_2 hob hp (fun _ _ _ => rfl) dX2_readRow_52 ?_
      refine r_getI C fl_RX2_87_1 hw.1 (fun _ _ _ => rfl) dX2_readRow_55 ?_
      replace hw := hw.2
      refine r_icmp_eq C dX2_readRow_58 66 (by decide) (fun hc => ?_) (fun hc => ?_)
      · replace hw := hw.1 hc
        refine r_sub [0] rfl ?_
        exact tb_X2_readRow_66 C hr  hw
      · replace hw := hw.2 hc
        refine r_aload_n C dX2_readRow_61 0 rfl ?_
        refine r_iconst (v := 2) C dX2_readRow_62 (by decide) ?_
        have hob := hw.1
        replace hw := hw.2
        refine r_callU C (x := ⟨RX2, "fail", "(I)V"⟩) (As := [.int 2]) (rest := []) (c_X7_fail (by decide) G hv1 al0 2 _ hw) yl_X7_fail (gm3 (List.mem_of_getElem? (i := 166) rfl) rfl) (gm3 (List.mem_of_getElem? (i := 157) rfl) rfl) (ci := 2) rfl (by decide) (gm3 (List.mem_of_getElem? (i := 167) rfl) rfl) (gm3 (List.mem_of_getElem? (i := 169) rfl) rfl) rfl hob (by decide) rfl (Nat.le_of_ble_eq_true rfl) dX2_readRow_63 rfl (kV fun hv4  hw => ?_)
        refine r_sub [0] rfl ?_
        exact tb_X2_readRow_66 C hr  hw
  · replace hw := hw.2 hc
    refine r_aload_n C dX2_readRow_29 0 rfl ?_
    refine r_iconst (v := 1) C dX2_readRow_30 (by decide) ?_
    have hob := hw.1
    replace hw := hw.2
    refine r_callU C (x := ⟨RX2, "fail", "(I)V"⟩) (As := [.int 1]) (rest := []) (c_X7_fail (by decide) G hv1 al0 1 _ hw) yl_X7_fail (gm3 (List.mem_of_getElem? (i := 166) rfl) rfl) (gm3 (List.mem_of_getElem? (i := 157) rfl) rfl) (ci := 2) rfl (by decide) (gm3 (List.mem_of_getElem? (i := 167) rfl) rfl) (gm3 (List.mem_of_getElem? (i := 169) rfl) rfl) rfl hob (by decide) rfl (Nat.le_of_ble_eq_true rfl) dX2_readRow_31 rfl (kV fun hv5  hw => ?_)
    refine r_goto C dX2_readRow_34 66 (by decide) ?_
    refine r_sub [0] rfl ?_
    exact tb_X2_readRow_66 C hr  hw
def wp_X2_readRow (h : AH) (a0 : Nat) (post : AH → Prop) : Prop := (ob h a0 2) ∧ (∃ rv1, aP h a0 12 = some rv1 ∧ ((ob h rv1 1) ∧ (((aI h rv1 1) < 8 → (wb_X2_readRow_17  h a0 post)) ∧ (¬ (aI h rv1 1) < 8 → ((ob h a0 2) ∧ wp_X7_fail 2 h a0 4 (fun hv2  => wb_X2_readRow_17  hv2 a0 post))))))
set_option maxRecDepth 100000 in
theorem c_X2_readRow (G : GG) (h : AH) (a0 : Nat) (post : AH → Prop) (hw : wp_X2_readRow h a0 post) : MC G yX2_readRow cX2_readRow 1 none 2 44 h [.ref (G.1 + a0)] (pV post) := by
  refine MC.of (lv := [(0, .ref (G.1 + a0))]) (by decide) (Nat.le_of_ble_eq_true rfl) rfl fun p l e R s m args below meth c C hr hnm => ?_
  unfold wp_X2_readRow at hw
  refine r_aload_n C dX2_readRow_0 0 rfl ?_
  have hob := hw.1
  obtain ⟨rv1, hp, hw⟩ := hw.2
  refine r_getP C fl_RX2_12_2 hob hp (fun _ _ _ => rfl) dX2_readRow_1 ?_
  refine r_getI C fl_RX2_75_1 hw.1 (fun _ _ _ => rfl) dX2_readRow_4 ?_
  replace hw := hw.2
  refine r_bipush (v := 8) C dX2_readRow_7 (by decide) ?_
  refine r_icmp_lt C dX2_readRow_9 17 (by decide) (fun hc => ?_) (fun hc => ?_)
  · replace hw := hw.1 hc
    refine r_sub [0] rfl ?_
    exact tb_X2_readRow_17 C hr  hw
  · replace hw := hw.2 hc
    refine r_aload_n C dX2_readRow_12 0 rfl ?_
    refine r_iconst (v := 4) C dX2_readRow_13 (by decide) ?_
    have hob := hw.1
    replace hw := hw.2
    refine r_callU C (x := ⟨RX2, "fail", "(I)V"⟩) (As := [.int 4]) (rest := []) (c_X7_fail (by decide) G h a0 4 _ hw) yl_X7_fail (gm3 (List.mem_of_getElem? (i := 166) rfl) rfl) (gm3 (List.mem_of_getElem? (i := 157) rfl) rfl) (ci := 2) rfl (by decide) (gm3 (List.mem_of_getElem? (i := 167) rfl) rfl) (gm3 (List.mem_of_getElem? (i := 169) rfl) rfl) rfl hob (by decide) rfl (Nat.le_of_ble_eq_true rfl) dX2_readRow_14 rfl (kV fun hv2  hw => ?_)
    refine r_sub [0] rfl ?_
    exact tb_X2_readRow_17 C hr  hw
theorem dX7_readNumber_0 : decode cX7_readNumber 0 = .ok (.aload_n 0, 1) := by decide +kernel
theorem dX7_readNumber_1 : decode cX7_readNumber 1 = .ok (.invokevirtual 74, 3) := by decide +kernel
theorem dX7_readNumber_4 : decode cX7_readNumber 4 = .ok (.aload_n 0, 1) := by decide +kernel
theorem dX7_readNumber_5 : decode cX7_readNumber 5 = .ok (.getfield 61, 3) := by decide +kernel
theorem dX7_readNumber_8 : decode cX7_readNumber 8 = .ok (.iconst 2, 1) := by decide +kernel
theorem dX7_readNumber_9 : decode cX7_readNumber 9 = .ok (.if_icmp .eq 11, 3) := by decide +kernel
theorem dX7_readNumber_12 : decode cX7_readNumber 12 = .ok (.aload_n 0, 1) := by decide +kernel
theorem dX7_readNumber_13 : decode cX7_readNumber 13 = .ok (.iconst 1, 1) := by decide +kernel
theorem dX7_readNumber_14 : decode cX7_readNumber 14 = .ok (.invokevirtual 77, 3) := by decide +kernel
theorem dX7_readNumber_17 : decode cX7_readNumber 17 = .ok (.goto 24, 3) := by decide +kernel
theorem dX7_readNumber_20 : decode cX7_readNumber 20 = .ok (.aload_n 0, 1) := by decide +kernel
theorem dX7_readNumber_21 : decode cX7_readNumber 21 = .ok (.getfield 67, 3) := by decide +kernel
theorem dX7_readNumber_24 : decode cX7_readNumber 24 = .ok (.iload_n 1, 1) := by decide +kernel
theorem dX7_readNumber_25 : decode cX7_readNumber 25 = .ok (.if_icmp .lt 11, 3) := by decide +kernel
theorem dX7_readNumber_28 : decode cX7_readNumber 28 = .ok (.aload_n 0, 1) := by decide +kernel
theorem dX7_readNumber_29 : decode cX7_readNumber 29 = .ok (.getfield 67, 3) := by decide +kernel
theorem dX7_readNumber_32 : decode cX7_readNumber 32 = .ok (.iload_n 2, 1) := by decide +kernel
theorem dX7_readNumber_33 : decode cX7_readNumber 33 = .ok (.if_icmp .le 8, 3) := by decide +kernel
theorem dX7_readNumber_36 : decode cX7_readNumber 36 = .ok (.aload_n 0, 1) := by decide +kernel
theorem dX7_readNumber_37 : decode cX7_readNumber 37 = .ok (.iconst 2, 1) := by decide +kernel
theorem dX7_readNumber_38 : decode cX7_readNumber 38 = .ok (.invokevirtual 77, 3) := by decide +kernel
theorem dX7_readNumber_41 : decode cX7_readNumber 41 = .ok (.aload_n 0, 1) := by decide +kernel
theorem dX7_readNumber_42 : decode cX7_readNumber 42 = .ok (.getfield 49, 3) := by decide +kernel
theorem dX7_readNumber_45 : decode cX7_readNumber 45 = .ok (.ifCond .ne 10, 3) := by decide +kernel
theorem dX7_readNumber_48 : decode cX7_readNumber 48 = .ok (.aload_n 0, 1) := by decide +kernel
theorem dX7_readNumber_49 : decode cX7_readNumber 49 = .ok (.getfield 67, 3) := by decide +kernel
theorem dX7_readNumber_52 : decode cX7_readNumber 52 = .ok (.goto 4, 3) := by decide +kernel
theorem dX7_readNumber_55 : decode cX7_readNumber 55 = .ok (.iload_n 1, 1) := by decide +kernel
theorem dX7_readNumber_56 : decode cX7_readNumber 56 = .ok (.ireturn, 1) := by decide +kernel
def wb_X7_readNumber_41 (ci : Nat)  (h : AH) (al0 : Nat) (xl1 : Int32)  (post : AH → Int32 → Prop) : Prop := (ob h al0 ci) ∧ ((¬ (aI h al0 10) = 0 → (post h xl1)) ∧ ((aI h al0 10) = 0 → ((ob h al0 ci) ∧ (post h (aI h al0 7)))))
set_option maxRecDepth 100000 in
theorem tb_X7_readNumber_41 {ci : Nat} (hci : ci = 2 ∨ ci = 3) {G : GG} {p : Program} {l : Launch} {e : Env} {R : Room} {s : State} {m : MethodId} {args : Array Value} {below : List Frame} {meth : Method} {c : Code} {n0 s0 : Nat} {post : AH → Int32 → Prop} (C : Cx G p R s m args meth c 3 cX7_readNumber RX7 n0 s0 2 44) (hr : meth.sig.returnType = (some .int))   {h : AH} {al0 : Nat} {xl1 : Int32}  (hw : wb_X7_readNumber_41 ci  h al0 xl1 post) : AW G p l e R s m args below meth c 3 (QM G (pI post) args s below n0 s0) 41 [(0, .ref (G.1 + al0)), (1, .int xl1)] [] h := by
  unfold wb_X7_readNumber_41 at hw
  rcases hci with rfl | rfl
  · refine r_aload_n C dX7_readNumber_41 0 rfl ?_
    refine r_getI C fl_RX7_49_2 hw.1 (fun _ _ _ => rfl) dX7_readNumber_42 ?_
    replace hw := hw.2
    refine r_if_ne C dX7_readNumber_45 55 (by decide) (fun hc => ?_) (fun hc => ?_)
    · replace hw := hw.1 hc
      refine r_iload_n C dX7_readNumber_55 1 rfl ?_
      exact r_iret C hr dX7_readNumber_56 hw
    · replace hw := hw.2 hc
      refine r_aload_n C dX7_readNumber_48 0 rfl ?_
      refine r_getI C fl_RX7_67_2 hw.1 (fun _ _ _ => rfl) dX7_readNumber_49 ?_
      replace hw := hw.2
      refine r_goto C dX7_readNumber_52 56 (by decide) ?_
      exact r_iret C hr dX7_readNumber_56 hw
  · refine r_aload_n C dX7_readNumber_41 0 rfl ?_
    refine r_getI C fl_RX7_49_3 hw.1 (fun _ _ _ => rfl) dX7_readNumber_42 ?_
    replace hw := hw.2
    refine r_if_ne C dX7_readNumber_45 55 (by decide) (fun hc => ?_) (fun hc => ?_)
    · replace hw := hw.1 hc
      refine r_iload_n C dX7_readNumber_55 1 rfl ?_
      exact r_iret C hr dX7_readNumber_56 hw
    · replace hw := hw.2 hc
      refine r_aload_n C dX7_readNumber_48 0 rfl ?_
      refine r_getI C fl_RX7_67_3 hw.1 (fun _ _ _ => rfl) dX7_readNumber_49 ?_
      replace hw := hw.2
      refine r_goto C dX7_readNumber_52 56 (by decide) ?_
      exact r_iret C hr dX7_readNumber_56 hw
def wb_X7_readNumber_36 (ci : Nat)  (h : AH) (al0 : Nat) (xl1 : Int32)  (post : AH → Int32 → Prop) : Prop := (ob h al0 ci) ∧ wp_X7_fail ci h al0 2 (fun hv1  => wb_X7_readNumber_41 ci  hv1 al0 xl1 post)
set_option maxRecDepth 100000 in
theorem tb_X7_readNumber_36 {ci : Nat} (hci : ci = 2 ∨ ci = 3) {G : GG} {p : Program} {l : Launch} {e : Env} {R : Room} {s : State} {m : MethodId} {args : Array Value} {below : List Frame} {meth : Method} {c : Code} {n0 s0 : Nat} {post : AH → Int32 → Prop} (C : Cx G p R s m args meth c 3 cX7_readNumber RX7 n0 s0 2 44) (hr : meth.sig.returnType = (some .int))   {h : AH} {al0 : Nat} {xl1 : Int32}  (hw : wb_X7_readNumber_36 ci  h al0 xl1 post) : AW G p l e R s m args below meth c 3 (QM G (pI post) args s below n0 s0) 36 [(0, .ref (G.1 + al0)), (1, .int xl1)] [] h := by
  unfold wb_X7_readNumber_36 at hw
  rcases hci with rfl | rfl
  · refine r_aload_n C dX7_readNumber_36 0 rfl ?_
    refine r_iconst (v := 2) C dX7_readNumber_37 (by decide) ?_
    have hob := hw.1
    replace hw := hw.2
    refine r_callV C (As := [.int 2]) (rest := []) (c_X7_fail (by decide) G h al0 2 _ hw) yl_X7_fail (gm3 (List.mem_of_getElem? (i := 156) rfl) rfl) (gm3 (List.mem_of_getElem? (i := 157) rfl) rfl) (ci := 2) rfl (by decide) (gm3 (List.mem_of_getElem? (i := 159) rfl) rfl) hob (by decide) rfl (Nat.le_of_ble_eq_true rfl) dX7_readNumber_38 rfl (kV fun hv1  hw => ?_)
    refine r_sub [0, 1] rfl ?_
    exact tb_X7_readNumber_41 (by decide) C hr  hw
  · refine r_aload_n C dX7_readNumber_36 0 rfl ?_
    refine r_iconst (v := 2) C dX7_readNumber_37 (by decide) ?_
    have hob := hw.1
    replace hw := hw.2
    refine r_callV C (As := [.int 2]) (rest := []) (c_X7_fail (by decide) G h al0 2 _ hw) yl_X7_fail (gm3 (List.mem_of_getElem? (i := 156) rfl) rfl) (gm3 (List.mem_of_getElem? (i := 157) rfl) rfl) (ci := 3) rfl (by decide) (gm3 (List.mem_of_getElem? (i := 160) rfl) rfl) hob (by decide) rfl (Nat.le_of_ble_eq_true rfl) dX7_readNumber_38 rfl (kV fun hv1  hw => ?_)
    refine r_sub [0, 1] rfl ?_
    exact tb_X7_readNumber_41 (by decide) C hr  hw
def wp_X7_readNumber (ci : Nat) (h : AH) (a0 : Nat) (x1 : Int32) (x2 : Int32) (post : AH → Int32 → Prop) : Prop := (ob h a0 ci) ∧ wp_X7_advance ci h a0  (fun hv1  => (ob hv1 a0 ci) ∧ (((aI hv1 a0 6) = 2 → ((ob hv1 a0 ci) ∧ (((aI hv1 a0 7) < x1 → (wb_X7_readNumber_36 ci  hv1 a0 x1 post)) ∧ (¬ (aI hv1 a0 7) < x1 → ((ob hv1 a0 ci) ∧ (((aI hv1 a0 7) ≤ x2 → (wb_X7_readNumber_41 ci  hv1 a0 x1 post)) ∧ (¬ (aI hv1 a0 7) ≤ x2 → (wb_X7_readNumber_36 ci  hv1 a0 x1 post)))))))) ∧ (¬ (aI hv1 a0 6) = 2 → ((ob hv1 a0 ci) ∧ wp_X7_fail ci hv1 a0 1 (fun hv2  => wb_X7_readNumber_41 ci  hv2 a0 x1 post)))))
set_option maxRecDepth 100000 in
theorem c_X7_readNumber {ci : Nat} (hci : ci = 2 ∨ ci = 3) (G : GG) (h : AH) (a0 : Nat) (x1 : Int32) (x2 : Int32) (post : AH → Int32 → Prop) (hw : wp_X7_readNumber ci h a0 x1 x2 post) : MC G yX7_readNumber cX7_readNumber 3 (some .int) 2 44 h [.ref (G.1 + a0), .int x1, .int x2] (pI post) := by
  refine MC.of (lv := [(0, .ref (G.1 + a0)), (1, .int x1), (2, .int x2)]) (by decide) (Nat.le_of_ble_eq_true rfl) rfl fun p l e R s m args below meth c C hr hnm => ?_
  unfold wp_X7_readNumber at hw
  rcases hci with rfl | rfl
  · refine r_aload_n C dX7_readNumber_0 0 rfl ?_
    have hob := hw.1
    replace hw := hw.2
    refine r_callV C (As := []) (rest := []) (c_X7_advance (by decide) G h a0  _ hw) yl_X7_advance (gm3 (List.mem_of_getElem? (i := 142) rfl) rfl) (gm3 (List.mem_of_getElem? (i := 143) rfl) rfl) (ci := 2) rfl (by decide) (gm3 (List.mem_of_getElem? (i := 145) rfl) rfl) hob (by decide) rfl (Nat.le_of_ble_eq_true rfl) dX7_readNumber_1 rfl (kV fun hv1  hw => ?_)
    refine r_aload_n C dX7_readNumber_4 0 rfl ?_
    refine r_getI C fl_RX7_61_2 hw.1 (fun _ _ _ => rfl) dX7_readNumber_5 ?_
    replace hw := hw.2
    refine r_iconst (v := 2) C dX7_readNumber_8 (by decide) ?_
    refine r_icmp_eq C dX7_readNumber_9 20 (by decide) (fun hc => ?_) (fun hc => ?_)
    · replace hw := hw.1 hc
      refine r_aload_n C dX7_readNumber_20 0 rfl ?_
      refine r_getI C fl_RX7_67_2 hw.1 (fun _ _ _ => rfl) dX7_readNumber_21 ?_
      replace hw := hw.2
      refine r_iload_n C dX7_readNumber_24 1 rfl ?_
      refine r_icmp_lt C dX7_readNumber_25 36 (by decide) (fun hc => ?_) (fun hc => ?_)
      · replace hw := hw.1 hc
        refine r_sub [0, 1] rfl ?_
        exact tb_X7_readNumber_36 (by decide) C hr  hw
      · replace hw := hw.2 hc
        refine r_aload_n C dX7_readNumber_28 0 rfl ?_
        refine r_getI C fl_RX7_67_2 hw.1 (fun _ _ _ => rfl) dX7_readNumber_29 ?_
        replace hw := hw.2
        refine r_iload_n C dX7_readNumber_32 2 rfl ?_
        refine r_icmp_le C dX7_readNumber_33 41 (by decide) (fun hc => ?_) (fun hc => ?_)
        · replace hw := hw.1 hc
          refine r_sub [0, 1] rfl ?_
          exact tb_X7_readNumber_41 (by decide) C hr  hw
        · replace hw := hw.2 hc
          refine r_sub [0, 1] rfl ?_
          exact tb_X7_readNumber_36 (by decide) C hr  hw
    · replace hw := hw.2 hc
      refine r_aload_n C dX7_readNumber_12 0 rfl ?_
      refine r_iconst (v := 1) C dX7_readNumber_13 (by decide) ?_
      have hob := hw.1
      replace hw := hw.2
      refine r_callV C (As := [.int 1]) (rest := []) (c_X7_fail (by decide) G hv1 a0 1 _ hw) yl_X7_fail (gm3 (List.mem_of_getElem? (i := 156) rfl) rfl) (gm3 (List.mem_of_getElem? (i := 157) rfl) rfl) (ci := 2) rfl (by decide) (gm3 (List.mem_of_getElem? (i := 159) rfl) rfl) hob (by decide) rfl (Nat.le_of_ble_eq_true rfl) dX7_readNumber_14 rfl (kV fun hv2  hw => ?_)
      refine r_goto C dX7_readNumber_17 41 (by decide) ?_
      refine r_sub [0, 1] rfl ?_
      exact tb_X7_readNumber_41 (by decide) C hr  hw
  · refine r_aload_n C dX7_readNumber_0 0 rfl ?_
    have hob := hw.1
    replace hw := hw.2
    refine r_callV C (As := []) (rest := []) (c_X7_advance (by decide) G h a0  _ hw) yl_X7_advance (gm3 (List.mem_of_getElem? (i := 142) rfl) rfl) (gm3 (List.mem_of_getElem? (i := 143) rfl) rfl) (ci := 3) rfl (by decide) (gm3 (List.mem_of_getElem? (i := 146) rfl) rfl) hob (by decide) rfl (Nat.le_of_ble_eq_true rfl) dX7_readNumber_1 rfl (kV fun hv1  hw => ?_)
    refine r_aload_n C dX7_readNumber_4 0 rfl ?_
    refine r_getI C fl_RX7_61_3 hw.1 (fun _ _ _ => rfl) dX7_readNumber_5 ?_
    replace hw := hw.2
    refine r_iconst (v := 2) C dX7_readNumber_8 (by decide) ?_
    refine r_icmp_eq C dX7_readNumber_9 20 (by decide) (fun hc => ?_) (fun hc => ?_)
    · replace hw := hw.1 hc
      refine r_aload_n C dX7_readNumber_20 0 rfl ?_
      refine r_getI C fl_RX7_67_3 hw.1 (fun _ _ _ => rfl) dX7_readNumber_21 ?_
      replace hw := hw.2
      refine r_iload_n C dX7_readNumber_24 1 rfl ?_
      refine r_icmp_lt C dX7_readNumber_25 36 (by decide) (fun hc => ?_) (fun hc => ?_)
      · replace hw := hw.1 hc
        refine r_sub [0, 1] rfl ?_
        exact tb_X7_readNumber_36 (by decide) C hr  hw
      · replace hw := hw.2 hc
        refine r_aload_n C dX7_readNumber_28 0 rfl ?_
        refine r_getI C fl_RX7_67_3 hw.1 (fun _ _ _ => rfl) dX7_readNumber_29 ?_
        replace hw := hw.2
        refine r_iload_n C dX7_readNumber_32 2 rfl ?_
        refine r_icmp_le C dX7_readNumber_33 41 (by decide) (fun hc => ?_) (fun hc => ?_)
        · replace hw := hw.1 hc
          refine r_sub [0, 1] rfl ?_
          exact tb_X7_readNumber_41 (by decide) C hr  hw
        · replace hw := hw.2 hc
          refine r_sub [0, 1] rfl ?_
          exact tb_X7_readNumber_36 (by decide) C hr  hw
    · replace hw := hw.2 hc
      refine r_aload_n C dX7_readNumber_12 0 rfl ?_
      refine r_iconst (v := 1) C dX7_readNumber_13 (by decide) ?_
      have hob := hw.1
      replace hw := hw.2
      refine r_callV C (As := [.int 1]) (rest := []) (c_X7_fail (by decide) G hv1 a0 1 _ hw) yl_X7_fail (gm3 (List.mem_of_getElem? (i := 156) rfl) rfl) (gm3 (List.mem_of_getElem? (i := 157) rfl) rfl) (ci := 3) rfl (by decide) (gm3 (List.mem_of_getElem? (i := 160) rfl) rfl) hob (by decide) rfl (Nat.le_of_ble_eq_true rfl) dX7_readNumber_14 rfl (kV fun hv2  hw => ?_)
      refine r_goto C dX7_readNumber_17 41 (by decide) ?_
      refine r_sub [0, 1] rfl ?_
      exact tb_X7_readNumber_41 (by decide) C hr  hw
theorem dX2_readTide_0 : decode cX2_readTide 0 = .ok (.aload_n 0, 1) := by decide +kernel
theorem dX2_readTide_1 : decode cX2_readTide 1 = .ok (.iconst 0, 1) := by decide +kernel
theorem dX2_readTide_2 : decode cX2_readTide 2 = .ok (.bipush 23, 2) := by decide +kernel
theorem dX2_readTide_4 : decode cX2_readTide 4 = .ok (.invokevirtual 100, 3) := by decide +kernel
theorem dX2_readTide_7 : decode cX2_readTide 7 = .ok (.istore_n 1, 1) := by decide +kernel
theorem dX2_readTide_8 : decode cX2_readTide 8 = .ok (.aload_n 0, 1) := by decide +kernel
theorem dX2_readTide_9 : decode cX2_readTide 9 = .ok (.getfield 25, 3) := by decide +kernel
theorem dX2_readTide_12 : decode cX2_readTide 12 = .ok (.iload_n 1, 1) := by decide +kernel
theorem dX2_readTide_13 : decode cX2_readTide 13 = .ok (.ishr, 1) := by decide +kernel
theorem dX2_readTide_14 : decode cX2_readTide 14 = .ok (.iconst 1, 1) := by decide +kernel
theorem dX2_readTide_15 : decode cX2_readTide 15 = .ok (.iand, 1) := by decide +kernel
theorem dX2_readTide_16 : decode cX2_readTide 16 = .ok (.ifCond .eq 8, 3) := by decide +kernel
theorem dX2_readTide_19 : decode cX2_readTide 19 = .ok (.aload_n 0, 1) := by decide +kernel
theorem dX2_readTide_20 : decode cX2_readTide 20 = .ok (.iconst 3, 1) := by decide +kernel
theorem dX2_readTide_21 : decode cX2_readTide 21 = .ok (.invokevirtual 69, 3) := by decide +kernel
theorem dX2_readTide_24 : decode cX2_readTide 24 = .ok (.aload_n 0, 1) := by decide +kernel
theorem dX2_readTide_25 : decode cX2_readTide 25 = .ok (.iconst 0, 1) := by decide +kernel
theorem dX2_readTide_26 : decode cX2_readTide 26 = .ok (.bipush 9, 2) := by decide +kernel
theorem dX2_readTide_28 : decode cX2_readTide 28 = .ok (.invokevirtual 100, 3) := by decide +kernel
theorem dX2_readTide_31 : decode cX2_readTide 31 = .ok (.istore_n 2, 1) := by decide +kernel
theorem dX2_readTide_32 : decode cX2_readTide 32 = .ok (.aload_n 0, 1) := by decide +kernel
theorem dX2_readTide_33 : decode cX2_readTide 33 = .ok (.getfield 90, 3) := by decide +kernel
theorem dX2_readTide_36 : decode cX2_readTide 36 = .ok (.ifCond .ne 25, 3) := by decide +kernel
theorem dX2_readTide_39 : decode cX2_readTide 39 = .ok (.aload_n 0, 1) := by decide +kernel
theorem dX2_readTide_40 : decode cX2_readTide 40 = .ok (.dup, 1) := by decide +kernel
theorem dX2_readTide_41 : decode cX2_readTide 41 = .ok (.getfield 25, 3) := by decide +kernel
theorem dX2_readTide_44 : decode cX2_readTide 44 = .ok (.iconst 1, 1) := by decide +kernel
theorem dX2_readTide_45 : decode cX2_readTide 45 = .ok (.iload_n 1, 1) := by decide +kernel
theorem dX2_readTide_46 : decode cX2_readTide 46 = .ok (.ishl, 1) := by decide +kernel
theorem dX2_readTide_47 : decode cX2_readTide 47 = .ok (.ior, 1) := by decide +kernel
theorem dX2_readTide_48 : decode cX2_readTide 48 = .ok (.putfield 25, 3) := by decide +kernel
theorem dX2_readTide_51 : decode cX2_readTide 51 = .ok (.aload_n 0, 1) := by decide +kernel
theorem dX2_readTide_52 : decode cX2_readTide 52 = .ok (.getfield 12, 3) := by decide +kernel
theorem dX2_readTide_55 : decode cX2_readTide 55 = .ok (.getfield 104, 3) := by decide +kernel
theorem dX2_readTide_58 : decode cX2_readTide 58 = .ok (.iload_n 1, 1) := by decide +kernel
theorem dX2_readTide_59 : decode cX2_readTide 59 = .ok (.iload_n 2, 1) := by decide +kernel
theorem dX2_readTide_60 : decode cX2_readTide 60 = .ok (.iastore, 1) := by decide +kernel
theorem dX2_readTide_61 : decode cX2_readTide 61 = .ok (.return_, 1) := by decide +kernel
def wb_X2_readTide_24  (h : AH) (al0 : Nat) (xl1 : Int32)  (post : AH → Prop) : Prop := (ob h al0 2) ∧ wp_X7_readNumber 2 h al0 0 9 (fun hv1 iv2 => (ob hv1 al0 2) ∧ ((¬ (aI hv1 al0 10) = 0 → (post hv1)) ∧ ((aI hv1 al0 10) = 0 → ((ob hv1 al0 2) ∧ ((ob hv1 al0 2) ∧ (∀ hv3 : AH, hv3 = hI hv1 al0 13 ((aI hv1 al0 13) ||| ((1 : Int32) <<< (xl1 &&& 31))) → ((ob hv3 al0 2) ∧ (∃ rv4, aP hv3 al0 12 = some rv4 ∧ ((ob hv3 rv4 1) ∧ (∃ rv5, aP hv3 rv4 4 = some rv5 ∧ ((ob hv3 rv5 13) ∧ ((vp_in xl1 (aL hv3 rv5)) ∧ (∀ hv6 : AH, hv6 = hI hv3 rv5 xl1.toNatClampNeg iv2 → (post hv6))))))))))))))
set_option maxRecDepth 100000 in
theorem tb_X2_readTide_24 {G : GG} {p : Program} {l : Launch} {e : Env} {R : Room} {s : State} {m : MethodId} {args : Array Value} {below : List Frame} {meth : Method} {c : Code} {n0 s0 : Nat} {post : AH → Prop} (C : Cx G p R s m args meth c 3 cX2_readTide RX2 n0 s0 3 66) (hr : meth.sig.returnType = none)   {h : AH} {al0 : Nat} {xl1 : Int32}  (hw : wb_X2_readTide_24  h al0 xl1 post) : AW G p l e R s m args below meth c 3 (QM G (pV post) args s below n0 s0) 24 [(0, .ref (G.1 + al0)), (1, .int xl1)] [] h := by
  unfold wb_X2_readTide_24 at hw
  refine r_aload_n C dX2_readTide_24 0 rfl ?_
  refine r_iconst (v := 0) C dX2_readTide_25 (by decide) ?_
  refine r_bipush (v := 9) C dX2_readTide_26 (by decide) ?_
  have hob := hw.1
  replace hw := hw.2
  refine r_callU C (x := ⟨RX2, "readNumber", "(II)I"⟩) (As := [.int 0, .int 9]) (rest := []) (c_X7_readNumber (by decide) G h al0 0 9 _ hw) yl_X7_readNumber (gm3 (List.mem_of_getElem? (i := 182) rfl) rfl) (gm3 (List.mem_of_getElem? (i := 186) rfl) rfl) (ci := 2) rfl (by decide) (gm3 (List.mem_of_getElem? (i := 183) rfl) rfl) (gm3 (List.mem_of_getElem? (i := 185) rfl) rfl) rfl hob (by decide) rfl (Nat.le_of_ble_eq_true rfl) dX2_readTide_28 rfl (kI fun hv1 iv2 hw => ?_)
  refine r_istore_n C dX2_readTide_31 [(2, .int iv2), (0, .ref (G.1 + al0)), (1, .int xl1)] (by decide) rfl ?_
  refine r_aload_n C dX2_readTide_32 1 rfl ?_
  refine r_getI C fl_RX2_90_2 hw.1 (fun _ _ _ => rfl) dX2_readTide_33 ?_
  replace hw := hw.2
  refine r_if_ne C dX2_readTide_36 61 (by decide) (fun hc => ?_) (fun hc => ?_)
  · replace hw := hw.1 hc
    exact r_vret C hr dX2_readTide_61 hw
  · replace hw := hw.2 hc
    refine r_aload_n C dX2_readTide_39 1 rfl ?_
    refine r_dup C dX2_readTide_40 rfl ?_
    refine r_getI C fl_RX2_25_2 hw.1 (fun _ _ _ => rfl) dX2_readTide_41 ?_
    replace hw := hw.2
    refine r_iconst (v := 1) C dX2_readTide_44 (by decide) ?_
    refine r_iload_n C dX2_readTide_45 2 rfl ?_
    refine r_ishl C dX2_readTide_46 ?_
    refine r_ior C dX2_readTide_47 ?_
    refine r_putI C fp_RX2_25_2 hw.1 rfl dX2_readTide_48 ?_
    replace hw := hw.2
    refine r_toph fun hv3 ehv3 => ?_
    replace hw := hw hv3 ehv3
    refine r_aload_n C dX2_readTide_51 1 rfl ?_
    have hob := hw.1
    obtain ⟨rv4, hp, hw⟩ := hw.2
    refine r_getP C fl_RX2_12_2 hob hp (fun _ _ _ => rfl) dX2_readTide_52 ?_
    have hob := hw.1
    obtain ⟨rv5, hp, hw⟩ := hw.2
    refine r_getP C fl_RX2_104_1 hob hp (fun _ _ _ => rfl) dX2_readTide_55 ?_
    refine r_iload_n C dX2_readTide_58 2 rfl ?_
    refine r_iload_n C dX2_readTide_59 0 rfl ?_
    refine r_iastore C hw.1 hw.2.1 dX2_readTide_60 ?_
    replace hw := hw.2.2
    refine r_toph fun hv6 ehv6 => ?_
    replace hw := hw hv6 ehv6
    exact r_vret C hr dX2_readTide_61 hw
def wp_X2_readTide (h : AH) (a0 : Nat) (post : AH → Prop) : Prop := (ob h a0 2) ∧ wp_X7_readNumber 2 h a0 0 23 (fun hv1 iv2 => (ob hv1 a0 2) ∧ (((((aI hv1 a0 13) >>> (iv2 &&& 31)) &&& (1 : Int32)) = 0 → (wb_X2_readTide_24  hv1 a0 iv2 post)) ∧ (¬ (((aI hv1 a0 13) >>> (iv2 &&& 31)) &&& (1 : Int32)) = 0 → ((ob hv1 a0 2) ∧ wp_X7_fail 2 hv1 a0 3 (fun hv3  => wb_X2_readTide_24  hv3 a0 iv2 post)))))
set_option maxRecDepth 100000 in
theorem c_X2_readTide (G : GG) (h : AH) (a0 : Nat) (post : AH → Prop) (hw : wp_X2_readTide h a0 post) : MC G yX2_readTide cX2_readTide 3 none 3 66 h [.ref (G.1 + a0)] (pV post) := by
  refine MC.of (lv := [(0, .ref (G.1 + a0))]) (by decide) (Nat.le_of_ble_eq_true rfl) rfl fun p l e R s m args below meth c C hr hnm => ?_
  unfold wp_X2_readTide at hw
  refine r_aload_n C dX2_readTide_0 0 rfl ?_
  refine r_iconst (v := 0) C dX2_readTide_1 (by decide) ?_
  refine r_bipush (v := 23) C dX2_readTide_2 (by decide) ?_
  have hob := hw.1
  replace hw := hw.2
  refine r_callU C (x := ⟨RX2, "readNumber", "(II)I"⟩) (As := [.int 0, .int 23]) (rest := []) (c_X7_readNumber (by decide) G h a0 0 23 _ hw) yl_X7_readNumber (gm3 (List.mem_of_getElem? (i := 182) rfl) rfl) (gm3 (List.mem_of_getElem? (i := 186) rfl) rfl) (ci := 2) rfl (by decide) (gm3 (List.mem_of_getElem? (i := 183) rfl) rfl) (gm3 (List.mem_of_getElem? (i := 185) rfl) rfl) rfl hob (by decide) rfl (Nat.le_of_ble_eq_true rfl) dX2_readTide_4 rfl (kI fun hv1 iv2 hw => ?_)
  refine r_istore_n C dX2_readTide_7 [(1, .int iv2), (0, .ref (G.1 + a0))] (by decide) rfl ?_
  refine r_aload_n C dX2_readTide_8 1 rfl ?_
  refine r_getI C fl_RX2_25_2 hw.1 (fun _ _ _ => rfl) dX2_readTide_9 ?_
  replace hw := hw.2
  refine r_iload_n C dX2_readTide_12 0 rfl ?_
  refine r_ishr C dX2_readTide_13 ?_
  refine r_iconst (v := 1) C dX2_readTide_14 (by decide) ?_
  refine r_iand C dX2_readTide_15 ?_
  refine r_if_eq C dX2_readTide_16 24 (by decide) (fun hc => ?_) (fun hc => ?_)
  · replace hw := hw.1 hc
    refine r_sub [1, 0] rfl ?_
    exact tb_X2_readTide_24 C hr  hw
  · replace hw := hw.2 hc
    refine r_aload_n C dX2_readTide_19 1 rfl ?_
    refine r_iconst (v := 3) C dX2_readTide_20 (by decide) ?_
    have hob := hw.1
    replace hw := hw.2
    refine r_callU C (x := ⟨RX2, "fail", "(I)V"⟩) (As := [.int 3]) (rest := []) (c_X7_fail (by decide) G hv1 a0 3 _ hw) yl_X7_fail (gm3 (List.mem_of_getElem? (i := 166) rfl) rfl) (gm3 (List.mem_of_getElem? (i := 157) rfl) rfl) (ci := 2) rfl (by decide) (gm3 (List.mem_of_getElem? (i := 167) rfl) rfl) (gm3 (List.mem_of_getElem? (i := 169) rfl) rfl) rfl hob (by decide) rfl (Nat.le_of_ble_eq_true rfl) dX2_readTide_21 rfl (kV fun hv3  hw => ?_)
    refine r_sub [1, 0] rfl ?_
    exact tb_X2_readTide_24 C hr  hw
theorem dX7_readName_0 : decode cX7_readName 0 = .ok (.aload_n 0, 1) := by decide +kernel
theorem dX7_readName_1 : decode cX7_readName 1 = .ok (.invokevirtual 74, 3) := by decide +kernel
theorem dX7_readName_4 : decode cX7_readName 4 = .ok (.aload_n 0, 1) := by decide +kernel
theorem dX7_readName_5 : decode cX7_readName 5 = .ok (.getfield 61, 3) := by decide +kernel
theorem dX7_readName_8 : decode cX7_readName 8 = .ok (.iconst 1, 1) := by decide +kernel
theorem dX7_readName_9 : decode cX7_readName 9 = .ok (.if_icmp .ne 10, 3) := by decide +kernel
theorem dX7_readName_12 : decode cX7_readName 12 = .ok (.aload_n 0, 1) := by decide +kernel
theorem dX7_readName_13 : decode cX7_readName 13 = .ok (.getfield 55, 3) := by decide +kernel
theorem dX7_readName_16 : decode cX7_readName 16 = .ok (.ifCond .lt 8, 3) := by decide +kernel
theorem dX7_readName_19 : decode cX7_readName 19 = .ok (.aload_n 0, 1) := by decide +kernel
theorem dX7_readName_20 : decode cX7_readName 20 = .ok (.iconst 1, 1) := by decide +kernel
theorem dX7_readName_21 : decode cX7_readName 21 = .ok (.invokevirtual 77, 3) := by decide +kernel
theorem dX7_readName_24 : decode cX7_readName 24 = .ok (.aload_n 0, 1) := by decide +kernel
theorem dX7_readName_25 : decode cX7_readName 25 = .ok (.getfield 67, 3) := by decide +kernel
theorem dX7_readName_28 : decode cX7_readName 28 = .ok (.ireturn, 1) := by decide +kernel
def wb_X7_readName_24 (ci : Nat)  (h : AH) (al0 : Nat)  (post : AH → Int32 → Prop) : Prop := (ob h al0 ci) ∧ (post h (aI h al0 7))
set_option maxRecDepth 100000 in
theorem tb_X7_readName_24 {ci : Nat} (hci : ci = 2 ∨ ci = 3) {G : GG} {p : Program} {l : Launch} {e : Env} {R : Room} {s : State} {m : MethodId} {args : Array Value} {below : List Frame} {meth : Method} {c : Code} {n0 s0 : Nat} {post : AH → Int32 → Prop} (C : Cx G p R s m args meth c 1 cX7_readName RX7 n0 s0 2 44) (hr : meth.sig.returnType = (some .int))   {h : AH} {al0 : Nat}  (hw : wb_X7_readName_24 ci  h al0 post) : AW G p l e R s m args below meth c 1 (QM G (pI post) args s below n0 s0) 24 [(0, .ref (G.1 + al0))] [] h := by
  unfold wb_X7_readName_24 at hw
  rcases hci with rfl | rfl
  · refine r_aload_n C dX7_readName_24 0 rfl ?_
    refine r_getI C fl_RX7_67_2 hw.1 (fun _ _ _ => rfl) dX7_readName_25 ?_
    replace hw := hw.2
    exact r_iret C hr dX7_readName_28 hw
  · refine r_aload_n C dX7_readName_24 0 rfl ?_
    refine r_getI C fl_RX7_67_3 hw.1 (fun _ _ _ => rfl) dX7_readName_25 ?_
    replace hw := hw.2
    exact r_iret C hr dX7_readName_28 hw
def wb_X7_readName_19 (ci : Nat)  (h : AH) (al0 : Nat)  (post : AH → Int32 → Prop) : Prop := (ob h al0 ci) ∧ wp_X7_fail ci h al0 1 (fun hv1  => wb_X7_readName_24 ci  hv1 al0 post)
set_option maxRecDepth 100000 in
theorem tb_X7_readName_19 {ci : Nat} (hci : ci = 2 ∨ ci = 3) {G : GG} {p : Program} {l : Launch} {e : Env} {R : Room} {s : State} {m : MethodId} {args : Array Value} {below : List Frame} {meth : Method} {c : Code} {n0 s0 : Nat} {post : AH → Int32 → Prop} (C : Cx G p R s m args meth c 1 cX7_readName RX7 n0 s0 2 44) (hr : meth.sig.returnType = (some .int))   {h : AH} {al0 : Nat}  (hw : wb_X7_readName_19 ci  h al0 post) : AW G p l e R s m args below meth c 1 (QM G (pI post) args s below n0 s0) 19 [(0, .ref (G.1 + al0))] [] h := by
  unfold wb_X7_readName_19 at hw
  rcases hci with rfl | rfl
  · refine r_aload_n C dX7_readName_19 0 rfl ?_
    refine r_iconst (v := 1) C dX7_readName_20 (by decide) ?_
    have hob := hw.1
    replace hw := hw.2
    refine r_callV C (As := [.int 1]) (rest := []) (c_X7_fail (by decide) G h al0 1 _ hw) yl_X7_fail (gm3 (List.mem_of_getElem? (i := 156) rfl) rfl) (gm3 (List.mem_of_getElem? (i := 157) rfl) rfl) (ci := 2) rfl (by decide) (gm3 (List.mem_of_getElem? (i := 159) rfl) rfl) hob (by decide) rfl (Nat.le_of_ble_eq_true rfl) dX7_readName_21 rfl (kV fun hv1  hw => ?_)
    refine r_sub [0] rfl ?_
    exact tb_X7_readName_24 (by decide) C hr  hw
  · refine r_aload_n C dX7_readName_19 0 rfl ?_
    refine r_iconst (v := 1) C dX7_readName_20 (by decide) ?_
    have hob := hw.1
    replace hw := hw.2
    refine r_callV C (As := [.int 1]) (rest := []) (c_X7_fail (by decide) G h al0 1 _ hw) yl_X7_fail (gm3 (List.mem_of_getElem? (i := 156) rfl) rfl) (gm3 (List.mem_of_getElem? (i := 157) rfl) rfl) (ci := 3) rfl (by decide) (gm3 (List.mem_of_getElem? (i := 160) rfl) rfl) hob (by decide) rfl (Nat.le_of_ble_eq_true rfl) dX7_readName_21 rfl (kV fun hv1  hw => ?_)
    refine r_sub [0] rfl ?_
    exact tb_X7_readName_24 (by decide) C hr  hw
def wp_X7_readName (ci : Nat) (h : AH) (a0 : Nat) (post : AH → Int32 → Prop) : Prop := (ob h a0 ci) ∧ wp_X7_advance ci h a0  (fun hv1  => (ob hv1 a0 ci) ∧ ((¬ (aI hv1 a0 6) = 1 → (wb_X7_readName_19 ci  hv1 a0 post)) ∧ ((aI hv1 a0 6) = 1 → ((ob hv1 a0 ci) ∧ (((aI hv1 a0 9) < 0 → (wb_X7_readName_24 ci  hv1 a0 post)) ∧ (¬ (aI hv1 a0 9) < 0 → (wb_X7_readName_19 ci  hv1 a0 post)))))))
set_option maxRecDepth 100000 in
theorem c_X7_readName {ci : Nat} (hci : ci = 2 ∨ ci = 3) (G : GG) (h : AH) (a0 : Nat) (post : AH → Int32 → Prop) (hw : wp_X7_readName ci h a0 post) : MC G yX7_readName cX7_readName 1 (some .int) 2 44 h [.ref (G.1 + a0)] (pI post) := by
  refine MC.of (lv := [(0, .ref (G.1 + a0))]) (by decide) (Nat.le_of_ble_eq_true rfl) rfl fun p l e R s m args below meth c C hr hnm => ?_
  unfold wp_X7_readName at hw
  rcases hci with rfl | rfl
  · refine r_aload_n C dX7_readName_0 0 rfl ?_
    have hob := hw.1
    replace hw := hw.2
    refine r_callV C (As := []) (rest := []) (c_X7_advance (by decide) G h a0  _ hw) yl_X7_advance (gm3 (List.mem_of_getElem? (i := 142) rfl) rfl) (gm3 (List.mem_of_getElem? (i := 143) rfl) rfl) (ci := 2) rfl (by decide) (gm3 (List.mem_of_getElem? (i := 145) rfl) rfl) hob (by decide) rfl (Nat.le_of_ble_eq_true rfl) dX7_readName_1 rfl (kV fun hv1  hw => ?_)
    refine r_aload_n C dX7_readName_4 0 rfl ?_
    refine r_getI C fl_RX7_61_2 hw.1 (fun _ _ _ => rfl) dX7_readName_5 ?_
    replace hw := hw.2
    refine r_iconst (v := 1) C dX7_readName_8 (by decide) ?_
    refine r_icmp_ne C dX7_readName_9 19 (by decide) (fun hc => ?_) (fun hc => ?_)
    · replace hw := hw.1 hc
      refine r_sub [0] rfl ?_
      exact tb_X7_readName_19 (by decide) C hr  hw
    · replace hw := hw.2 hc
      refine r_aload_n C dX7_readName_12 0 rfl ?_
      refine r_getI C fl_RX7_55_2 hw.1 (fun _ _ _ => rfl) dX7_readName_13 ?_
      replace hw := hw.2
      refine r_if_lt C dX7_readName_16 24 (by decide) (fun hc => ?_) (fun hc => ?_)
      · replace hw := hw.1 hc
        refine r_sub [0] rfl ?_
        exact tb_X7_readName_24 (by decide) C hr  hw
      · replace hw := hw.2 hc
        refine r_sub [0] rfl ?_
        exact tb_X7_readName_19 (by decide) C hr  hw
  · refine r_aload_n C dX7_readName_0 0 rfl ?_
    have hob := hw.1
    replace hw := hw.2
    refine r_callV C (As := []) (rest := []) (c_X7_advance (by decide) G h a0  _ hw) yl_X7_advance (gm3 (List.mem_of_getElem? (i := 142) rfl) rfl) (gm3 (List.mem_of_getElem? (i := 143) rfl) rfl) (ci := 3) rfl (by decide) (gm3 (List.mem_of_getElem? (i := 146) rfl) rfl) hob (by decide) rfl (Nat.le_of_ble_eq_true rfl) dX7_readName_1 rfl (kV fun hv1  hw => ?_)
    refine r_aload_n C dX7_readName_4 0 rfl ?_
    refine r_getI C fl_RX7_61_3 hw.1 (fun _ _ _ => rfl) dX7_readName_5 ?_
    replace hw := hw.2
    refine r_iconst (v := 1) C dX7_readName_8 (by decide) ?_
    refine r_icmp_ne C dX7_readName_9 19 (by decide) (fun hc => ?_) (fun hc => ?_)
    · replace hw := hw.1 hc
      refine r_sub [0] rfl ?_
      exact tb_X7_readName_19 (by decide) C hr  hw
    · replace hw := hw.2 hc
      refine r_aload_n C dX7_readName_12 0 rfl ?_
      refine r_getI C fl_RX7_55_3 hw.1 (fun _ _ _ => rfl) dX7_readName_13 ?_
      replace hw := hw.2
      refine r_if_lt C dX7_readName_16 24 (by decide) (fun hc => ?_) (fun hc => ?_)
      · replace hw := hw.1 hc
        refine r_sub [0] rfl ?_
        exact tb_X7_readName_24 (by decide) C hr  hw
      · replace hw := hw.2 hc
        refine r_sub [0] rfl ?_
        exact tb_X7_readName_19 (by decide) C hr  hw
theorem dX2_readCell_0 : decode cX2_readCell 0 = .ok (.aload_n 0, 1) := by decide +kernel
theorem dX2_readCell_1 : decode cX2_readCell 1 = .ok (.iconst 0, 1) := by decide +kernel
theorem dX2_readCell_2 : decode cX2_readCell 2 = .ok (.aload_n 0, 1) := by decide +kernel
theorem dX2_readCell_3 : decode cX2_readCell 3 = .ok (.getfield 12, 3) := by decide +kernel
theorem dX2_readCell_6 : decode cX2_readCell 6 = .ok (.getfield 87, 3) := by decide +kernel
theorem dX2_readCell_9 : decode cX2_readCell 9 = .ok (.iconst 1, 1) := by decide +kernel
theorem dX2_readCell_10 : decode cX2_readCell 10 = .ok (.isub, 1) := by decide +kernel
theorem dX2_readCell_11 : decode cX2_readCell 11 = .ok (.invokevirtual 100, 3) := by decide +kernel
theorem dX2_readCell_14 : decode cX2_readCell 14 = .ok (.istore_n 1, 1) := by decide +kernel
theorem dX2_readCell_15 : decode cX2_readCell 15 = .ok (.aload_n 0, 1) := by decide +kernel
theorem dX2_readCell_16 : decode cX2_readCell 16 = .ok (.iconst 0, 1) := by decide +kernel
theorem dX2_readCell_17 : decode cX2_readCell 17 = .ok (.aload_n 0, 1) := by decide +kernel
theorem dX2_readCell_18 : decode cX2_readCell 18 = .ok (.getfield 12, 3) := by decide +kernel
theorem dX2_readCell_21 : decode cX2_readCell 21 = .ok (.getfield 75, 3) := by decide +kernel
theorem dX2_readCell_24 : decode cX2_readCell 24 = .ok (.iconst 1, 1) := by decide +kernel
theorem dX2_readCell_25 : decode cX2_readCell 25 = .ok (.isub, 1) := by decide +kernel
theorem dX2_readCell_26 : decode cX2_readCell 26 = .ok (.invokevirtual 100, 3) := by decide +kernel
theorem dX2_readCell_29 : decode cX2_readCell 29 = .ok (.istore_n 2, 1) := by decide +kernel
theorem dX2_readCell_30 : decode cX2_readCell 30 = .ok (.aload_n 0, 1) := by decide +kernel
theorem dX2_readCell_31 : decode cX2_readCell 31 = .ok (.getfield 90, 3) := by decide +kernel
theorem dX2_readCell_34 : decode cX2_readCell 34 = .ok (.ifCond .ne 12, 3) := by decide +kernel
theorem dX2_readCell_37 : decode cX2_readCell 37 = .ok (.bipush 8, 2) := by decide +kernel
theorem dX2_readCell_39 : decode cX2_readCell 39 = .ok (.iload_n 2, 1) := by decide +kernel
theorem dX2_readCell_40 : decode cX2_readCell 40 = .ok (.imul, 1) := by decide +kernel
theorem dX2_readCell_41 : decode cX2_readCell 41 = .ok (.iload_n 1, 1) := by decide +kernel
theorem dX2_readCell_42 : decode cX2_readCell 42 = .ok (.iadd, 1) := by decide +kernel
theorem dX2_readCell_43 : decode cX2_readCell 43 = .ok (.goto 4, 3) := by decide +kernel
theorem dX2_readCell_46 : decode cX2_readCell 46 = .ok (.iconst 0, 1) := by decide +kernel
theorem dX2_readCell_47 : decode cX2_readCell 47 = .ok (.ireturn, 1) := by decide +kernel
def wp_X2_readCell (h : AH) (a0 : Nat) (post : AH → Int32 → Prop) : Prop := (ob h a0 2) ∧ (∃ rv1, aP h a0 12 = some rv1 ∧ ((ob h rv1 1) ∧ ((ob h a0 2) ∧ wp_X7_readNumber 2 h a0 0 ((aI h rv1 0) - (1 : Int32)) (fun hv2 iv3 => (ob hv2 a0 2) ∧ (∃ rv4, aP hv2 a0 12 = some rv4 ∧ ((ob hv2 rv4 1) ∧ ((ob hv2 a0 2) ∧ wp_X7_readNumber 2 hv2 a0 0 ((aI hv2 rv4 1) - (1 : Int32)) (fun hv5 iv6 => (ob hv5 a0 2) ∧ ((¬ (aI hv5 a0 10) = 0 → (post hv5 0)) ∧ ((aI hv5 a0 10) = 0 → (post hv5 (((8 : Int32) * iv6) + iv3))))))))))))
set_option maxRecDepth 100000 in
theorem c_X2_readCell (G : GG) (h : AH) (a0 : Nat) (post : AH → Int32 → Prop) (hw : wp_X2_readCell h a0 post) : MC G yX2_readCell cX2_readCell 3 (some .int) 3 66 h [.ref (G.1 + a0)] (pI post) := by
  refine MC.of (lv := [(0, .ref (G.1 + a0))]) (by decide) (Nat.le_of_ble_eq_true rfl) rfl fun p l e R s m args below meth c C hr hnm => ?_
  unfold wp_X2_readCell at hw
  refine r_aload_n C dX2_readCell_0 0 rfl ?_
  refine r_iconst (v := 0) C dX2_readCell_1 (by decide) ?_
  refine r_aload_n C dX2_readCell_2 0 rfl ?_
  have hob := hw.1
  obtain ⟨rv1, hp, hw⟩ := hw.2
  refine r_getP C fl_RX2_12_2 hob hp (fun _ _ _ => rfl) dX2_readCell_3 ?_
  refine r_getI C fl_RX2_87_1 hw.1 (fun _ _ _ => rfl) dX2_readCell_6 ?_
  replace hw := hw.2
  refine r_iconst (v := 1) C dX2_readCell_9 (by decide) ?_
  refine r_isub C dX2_readCell_10 ?_
  have hob := hw.1
  replace hw := hw.2
  refine r_callU C (x := ⟨RX2, "readNumber", "(II)I"⟩) (As := [.int 0, .int ((aI h rv1 0) - (1 : Int32))]) (rest := []) (c_X7_readNumber (by decide) G h a0 0 ((aI h rv1 0) - (1 : Int32)) _ hw) yl_X7_readNumber (gm3 (List.mem_of_getElem? (i := 182) rfl) rfl) (gm3 (List.mem_of_getElem? (i := 186) rfl) rfl) (ci := 2) rfl (by decide) (gm3 (List.mem_of_getElem? (i := 183) rfl) rfl) (gm3 (List.mem_of_getElem? (i := 185) rfl) rfl) rfl hob (by decide) rfl (Nat.le_of_ble_eq_true rfl) dX2_readCell_11 rfl (kI fun hv2 iv3 hw => ?_)
  refine r_istore_n C dX2_readCell_14 [(1, .int iv3), (0, .ref (G.1 + a0))] (by decide) rfl ?_
  refine r_aload_n C dX2_readCell_15 1 rfl ?_
  refine r_iconst (v := 0) C dX2_readCell_16 (by decide) ?_
  refine r_aload_n C dX2_readCell_17 1 rfl ?_
  have hob := hw.1
  obtain ⟨rv4, hp, hw⟩ := hw.2
  refine r_getP C fl_RX2_12_2 hob hp (fun _ _ _ => rfl) dX2_readCell_18 ?_
  refine r_getI C fl_RX2_75_1 hw.1 (fun _ _ _ => rfl) dX2_readCell_21 ?_
  replace hw := hw.2
  refine r_iconst (v := 1) C dX2_readCell_24 (by decide) ?_
  refine r_isub C dX2_readCell_25 ?_
  have hob := hw.1
  replace hw := hw.2
  refine r_callU C (x := ⟨RX2, "readNumber", "(II)I"⟩) (As := [.int 0, .int ((aI hv2 rv4 1) - (1 : Int32))]) (rest := []) (c_X7_readNumber (by decide) G hv2 a0 0 ((aI hv2 rv4 1) - (1 : Int32)) _ hw) yl_X7_readNumber (gm3 (List.mem_of_getElem? (i := 182) rfl) rfl) (gm3 (List.mem_of_getElem? (i := 186) rfl) rfl) (ci := 2) rfl (by decide) (gm3 (List.mem_of_getElem? (i := 183) rfl) rfl) (gm3 (List.mem_of_getElem? (i := 185) rfl) rfl) rfl hob (by decide) rfl (Nat.le_of_ble_eq_true rfl) dX2_readCell_26 rfl (kI fun hv5 iv6 hw => ?_)
  refine r_istore_n C dX2_readCell_29 [(2, .int iv6), (1, .int iv3), (0, .ref (G.1 + a0))] (by decide) rfl ?_
  refine r_aload_n C dX2_readCell_30 2 rfl ?_
  refine r_getI C fl_RX2_90_2 hw.1 (fun _ _ _ => rfl) dX2_readCell_31 ?_
  replace hw := hw.2
  refine r_if_ne C dX2_readCell_34 46 (by decide) (fun hc => ?_) (fun hc => ?_)
  · replace hw := hw.1 hc
    refine r_iconst (v := 0) C dX2_readCell_46 (by decide) ?_
    exact r_iret C hr dX2_readCell_47 hw
  · replace hw := hw.2 hc
    refine r_bipush (v := 8) C dX2_readCell_37 (by decide) ?_
    refine r_iload_n C dX2_readCell_39 0 rfl ?_
    refine r_imul C dX2_readCell_40 ?_
    refine r_iload_n C dX2_readCell_41 1 rfl ?_
    refine r_iadd C dX2_readCell_42 ?_
    refine r_goto C dX2_readCell_43 47 (by decide) ?_
    exact r_iret C hr dX2_readCell_47 hw
theorem dX2_isOnAnother_0 : decode cX2_isOnAnother 0 = .ok (.aload_n 0, 1) := by decide +kernel
theorem dX2_isOnAnother_1 : decode cX2_isOnAnother 1 = .ok (.getfield 12, 3) := by decide +kernel
theorem dX2_isOnAnother_4 : decode cX2_isOnAnother 4 = .ok (.iload_n 1, 1) := by decide +kernel
theorem dX2_isOnAnother_5 : decode cX2_isOnAnother 5 = .ok (.aload_n 0, 1) := by decide +kernel
theorem dX2_isOnAnother_6 : decode cX2_isOnAnother 6 = .ok (.getfield 12, 3) := by decide +kernel
theorem dX2_isOnAnother_9 : decode cX2_isOnAnother 9 = .ok (.getfield 131, 3) := by decide +kernel
theorem dX2_isOnAnother_12 : decode cX2_isOnAnother 12 = .ok (.iload_n 1, 1) := by decide +kernel
theorem dX2_isOnAnother_13 : decode cX2_isOnAnother 13 = .ok (.iaload, 1) := by decide +kernel
theorem dX2_isOnAnother_14 : decode cX2_isOnAnother 14 = .ok (.invokevirtual 145, 3) := by decide +kernel
theorem dX2_isOnAnother_17 : decode cX2_isOnAnother 17 = .ok (.lstore_n 2, 1) := by decide +kernel
theorem dX2_isOnAnother_18 : decode cX2_isOnAnother 18 = .ok (.iconst 0, 1) := by decide +kernel
theorem dX2_isOnAnother_19 : decode cX2_isOnAnother 19 = .ok (.istore 4, 2) := by decide +kernel
theorem dX2_isOnAnother_21 : decode cX2_isOnAnother 21 = .ok (.iload 4, 2) := by decide +kernel
theorem dX2_isOnAnother_23 : decode cX2_isOnAnother 23 = .ok (.iload_n 1, 1) := by decide +kernel
theorem dX2_isOnAnother_24 : decode cX2_isOnAnother 24 = .ok (.if_icmp .ge 37, 3) := by decide +kernel
theorem dX2_isOnAnother_27 : decode cX2_isOnAnother 27 = .ok (.lload_n 2, 1) := by decide +kernel
theorem dX2_isOnAnother_28 : decode cX2_isOnAnother 28 = .ok (.aload_n 0, 1) := by decide +kernel
theorem dX2_isOnAnother_29 : decode cX2_isOnAnother 29 = .ok (.getfield 12, 3) := by decide +kernel
theorem dX2_isOnAnother_32 : decode cX2_isOnAnother 32 = .ok (.iload 4, 2) := by decide +kernel
theorem dX2_isOnAnother_34 : decode cX2_isOnAnother 34 = .ok (.aload_n 0, 1) := by decide +kernel
theorem dX2_isOnAnother_35 : decode cX2_isOnAnother 35 = .ok (.getfield 12, 3) := by decide +kernel
theorem dX2_isOnAnother_38 : decode cX2_isOnAnother 38 = .ok (.getfield 131, 3) := by decide +kernel
theorem dX2_isOnAnother_41 : decode cX2_isOnAnother 41 = .ok (.iload 4, 2) := by decide +kernel
theorem dX2_isOnAnother_43 : decode cX2_isOnAnother 43 = .ok (.iaload, 1) := by decide +kernel
theorem dX2_isOnAnother_44 : decode cX2_isOnAnother 44 = .ok (.invokevirtual 145, 3) := by decide +kernel
theorem dX2_isOnAnother_47 : decode cX2_isOnAnother 47 = .ok (.land, 1) := by decide +kernel
theorem dX2_isOnAnother_48 : decode cX2_isOnAnother 48 = .ok (.lconst 0, 1) := by decide +kernel
theorem dX2_isOnAnother_49 : decode cX2_isOnAnother 49 = .ok (.lcmp, 1) := by decide +kernel
theorem dX2_isOnAnother_50 : decode cX2_isOnAnother 50 = .ok (.ifCond .eq 5, 3) := by decide +kernel
theorem dX2_isOnAnother_53 : decode cX2_isOnAnother 53 = .ok (.iconst 1, 1) := by decide +kernel
theorem dX2_isOnAnother_54 : decode cX2_isOnAnother 54 = .ok (.ireturn, 1) := by decide +kernel
theorem dX2_isOnAnother_55 : decode cX2_isOnAnother 55 = .ok (.iinc 4 1, 3) := by decide +kernel
theorem dX2_isOnAnother_58 : decode cX2_isOnAnother 58 = .ok (.goto (-37), 3) := by decide +kernel
theorem dX2_isOnAnother_61 : decode cX2_isOnAnother 61 = .ok (.iconst 0, 1) := by decide +kernel
theorem dX2_isOnAnother_62 : decode cX2_isOnAnother 62 = .ok (.ireturn, 1) := by decide +kernel
def wb_X2_isOnAnother_21 (K21 : AH → Nat → Int32 → Int64 → Int32 → Prop) (h : AH) (al0 : Nat) (xl1 : Int32) (zl2 : Int64) (xl4 : Int32)  (post : AH → Int32 → Prop) : Prop := (xl1 ≤ xl4 → (((0 : Int32) = 0 ∨ (0 : Int32) = 1) ∧ post h 0)) ∧ (¬ xl1 ≤ xl4 → ((ob h al0 2) ∧ (∃ rv1, aP h al0 12 = some rv1 ∧ ((ob h al0 2) ∧ (∃ rv2, aP h al0 12 = some rv2 ∧ ((ob h rv2 1) ∧ (∃ rv3, aP h rv2 10 = some rv3 ∧ ((ob h rv3 13) ∧ ((vp_in xl4 (aL h rv3)) ∧ ((ob h rv1 1) ∧ wp_X1_coverAt h rv1 xl4 (aI h rv3 xl4.toNatClampNeg) (fun hv4 jv5 => ((lg_cmp (zl2 &&& jv5) 0) = 0 → (∀ iv6 : Int32, iv6 = xl4 + 1 → (K21 hv4 al0 xl1 zl2 iv6))) ∧ (¬ (lg_cmp (zl2 &&& jv5) 0) = 0 → (((1 : Int32) = 0 ∨ (1 : Int32) = 1) ∧ post hv4 1)))))))))))))
set_option maxRecDepth 100000 in
theorem tb_X2_isOnAnother_21 {G : GG} {p : Program} {l : Launch} {e : Env} {R : Room} {s : State} {m : MethodId} {args : Array Value} {below : List Frame} {meth : Method} {c : Code} {n0 s0 : Nat} {post : AH → Int32 → Prop} (C : Cx G p R s m args meth c 5 cX2_isOnAnother RX2 n0 s0 2 48) (hr : meth.sig.returnType = (some .boolean)) {K21 : AH → Nat → Int32 → Int64 → Int32 → Prop} (hK21 : ∀ (h : AH) (al0 : Nat) (xl1 : Int32) (zl2 : Int64) (xl4 : Int32), K21 h al0 xl1 zl2 xl4 → AW G p l e R s m args below meth c 5 (QM G (pI post) args s below n0 s0) 21 [(0, .ref (G.1 + al0)), (1, .int xl1), (2, .long zl2), (4, .int xl4)] [] h) {h : AH} {al0 : Nat} {xl1 : Int32} {zl2 : Int64} {xl4 : Int32}  (hw : wb_X2_isOnAnother_21 K21 h al0 xl1 zl2 xl4 post) : AW G p l e R s m args below meth c 5 (QM G (pI post) args s below n0 s0) 21 [(0, .ref (G.1 + al0)), (1, .int xl1), (2, .long zl2), (4, .int xl4)] [] h := by
  unfold wb_X2_isOnAnother_21 at hw
  refine r_iload C dX2_isOnAnother_21 3 rfl ?_
  refine r_iload_n C dX2_isOnAnother_23 1 rfl ?_
  refine r_icmp_ge C dX2_isOnAnother_24 61 (by decide) (fun hc => ?_) (fun hc => ?_)
  · replace hw := hw.1 hc
    refine r_iconst (v := 0) C dX2_isOnAnother_61 (by decide) ?_
    exact r_zret C hr dX2_isOnAnother_62 hw.1 hw.2
  · replace hw := hw.2 hc
    refine r_lload_n C dX2_isOnAnother_27 2 rfl ?_
    refine r_aload_n C dX2_isOnAnother_28 0 rfl ?_
    have hob := hw.1
    obtain ⟨rv1, hp, hw⟩ := hw.2
    refine r_getP C fl_RX2_12_2 hob hp (fun _ _ _ => rfl) dX2_isOnAnother_29 ?_
    refine r_iload C dX2_isOnAnother_32 3 rfl ?_
    refine r_aload_n C dX2_isOnAnother_34 0 rfl ?_
    have hob := hw.1
    obtain ⟨rv2, hp, hw⟩ := hw.2
    refine r_getP C fl_RX2_12_2 hob hp (fun _ _ _ => rfl) dX2_isOnAnother_35 ?_
    have hob := hw.1
    obtain ⟨rv3, hp, hw⟩ := hw.2
    refine r_getP C fl_RX2_131_1 hob hp (fun _ _ _ => rfl) dX2_isOnAnother_38 ?_
    refine r_iload C dX2_isOnAnother_41 3 rfl ?_
    refine r_iaload C hw.1 hw.2.1 dX2_isOnAnother_43 ?_
    replace hw := hw.2.2
    have hob := hw.1
    replace hw := hw.2
    refine r_callV C (As := [.int xl4, .int (aI h rv3 xl4.toNatClampNeg)]) (rest := [.long zl2]) (c_X1_coverAt G h rv1 xl4 (aI h rv3 xl4.toNatClampNeg) _ hw) yl_X1_coverAt (gm3 (List.mem_of_getElem? (i := 222) rfl) rfl) (gm3 (List.mem_of_getElem? (i := 223) rfl) rfl) (ci := 1) rfl (by decide) (gm3 (List.mem_of_getElem? (i := 224) rfl) rfl) hob (by decide) rfl (Nat.le_of_ble_eq_true rfl) dX2_isOnAnother_44 rfl (kJ fun hv4 jv5 hw => ?_)
    refine r_land C dX2_isOnAnother_47 ?_
    refine r_lconst (v := 0) C dX2_isOnAnother_48 (by decide) ?_
    refine r_lcmp C dX2_isOnAnother_49 ?_
    refine r_if_eq C dX2_isOnAnother_50 55 (by decide) (fun hc => ?_) (fun hc => ?_)
    · replace hw := hw.1 hc
      obtain ⟨iv6, eiv6⟩ : ∃ q : Int32, q = xl4 + 1 := ⟨_, rfl⟩
      replace hw := hw iv6 eiv6
      refine r_iinc C dX2_isOnAnother_55 3 rfl (by rw [eiv6]; rfl) [(4, .int iv6), (0, .ref (G.1 + al0)), (1, .int xl1), (2, .long zl2)] (by decide) rfl ?_
      refine r_goto C dX2_isOnAnother_58 21 (by decide) ?_
      refine r_sub [1, 2, 3, 0] rfl ?_
      exact hK21 _ _ _ _ _ hw
    · replace hw := hw.2 hc
      refine r_iconst (v := 1) C dX2_isOnAnother_53 (by decide) ?_
      exact r_zret C hr dX2_isOnAnother_54 hw.1 hw.2
def wl_X2_isOnAnother_21  (post : AH → Int32 → Prop) : Nat → AH → Nat → Int32 → Int64 → Int32 → Prop
  | 0 => fun _ _ _ _ _ => False
  | n + 1 => fun h al0 xl1 zl2 xl4 => wb_X2_isOnAnother_21  (wl_X2_isOnAnother_21  post n) h al0 xl1 zl2 xl4 post
theorem tl_X2_isOnAnother_21 {G : GG} {p : Program} {l : Launch} {e : Env} {R : Room} {s : State} {m : MethodId} {args : Array Value} {below : List Frame} {meth : Method} {c : Code} {n0 s0 : Nat} {post : AH → Int32 → Prop} (C : Cx G p R s m args meth c 5 cX2_isOnAnother RX2 n0 s0 2 48) (hr : meth.sig.returnType = (some .boolean))   : ∀ (n : Nat) (h : AH) (al0 : Nat) (xl1 : Int32) (zl2 : Int64) (xl4 : Int32), wl_X2_isOnAnother_21  post n h al0 xl1 zl2 xl4 → AW G p l e R s m args below meth c 5 (QM G (pI post) args s below n0 s0) 21 [(0, .ref (G.1 + al0)), (1, .int xl1), (2, .long zl2), (4, .int xl4)] [] h := by
  intro n
  induction n with
  | zero => intro h al0 xl1 zl2 xl4 hw; exact hw.elim
  | succ n ih => intro h al0 xl1 zl2 xl4 hw; exact tb_X2_isOnAnother_21 C hr  ih hw
def wp_X2_isOnAnother (h : AH) (a0 : Nat) (x1 : Int32) (post : AH → Int32 → Prop) : Prop := (ob h a0 2) ∧ (∃ rv1, aP h a0 12 = some rv1 ∧ ((ob h a0 2) ∧ (∃ rv2, aP h a0 12 = some rv2 ∧ ((ob h rv2 1) ∧ (∃ rv3, aP h rv2 10 = some rv3 ∧ ((ob h rv3 13) ∧ ((vp_in x1 (aL h rv3)) ∧ ((ob h rv1 1) ∧ wp_X1_coverAt h rv1 x1 (aI h rv3 x1.toNatClampNeg) (fun hv4 jv5 => ∃ n, wl_X2_isOnAnother_21  post n hv4 a0 x1 jv5 0)))))))))
set_option maxRecDepth 100000 in
theorem c_X2_isOnAnother (G : GG) (h : AH) (a0 : Nat) (x1 : Int32) (post : AH → Int32 → Prop) (hw : wp_X2_isOnAnother h a0 x1 post) : MC G yX2_isOnAnother cX2_isOnAnother 5 (some .boolean) 2 48 h [.ref (G.1 + a0), .int x1] (pI post) := by
  refine MC.of (lv := [(0, .ref (G.1 + a0)), (1, .int x1)]) (by decide) (Nat.le_of_ble_eq_true rfl) rfl fun p l e R s m args below meth c C hr hnm => ?_
  unfold wp_X2_isOnAnother at hw
  refine r_aload_n C dX2_isOnAnother_0 0 rfl ?_
  have hob := hw.1
  obtain ⟨rv1, hp, hw⟩ := hw.2
  refine r_getP C fl_RX2_12_2 hob hp (fun _ _ _ => rfl) dX2_isOnAnother_1 ?_
  refine r_iload_n C dX2_isOnAnother_4 1 rfl ?_
  refine r_aload_n C dX2_isOnAnother_5 0 rfl ?_
  have hob := hw.1
  obtain ⟨rv2, hp, hw⟩ := hw.2
  refine r_getP C fl_RX2_12_2 hob hp (fun _ _ _ => rfl) dX2_isOnAnother_6 ?_
  have hob := hw.1
  obtain ⟨rv3, hp, hw⟩ := hw.2
  refine r_getP C fl_RX2_131_1 hob hp (fun _ _ _ => rfl) dX2_isOnAnother_9 ?_
  refine r_iload_n C dX2_isOnAnother_12 1 rfl ?_
  refine r_iaload C hw.1 hw.2.1 dX2_isOnAnother_13 ?_
  replace hw := hw.2.2
  have hob := hw.1
  replace hw := hw.2
  refine r_callV C (As := [.int x1, .int (aI h rv3 x1.toNatClampNeg)]) (rest := []) (c_X1_coverAt G h rv1 x1 (aI h rv3 x1.toNatClampNeg) _ hw) yl_X1_coverAt (gm3 (List.mem_of_getElem? (i := 222) rfl) rfl) (gm3 (List.mem_of_getElem? (i := 223) rfl) rfl) (ci := 1) rfl (by decide) (gm3 (List.mem_of_getElem? (i := 224) rfl) rfl) hob (by decide) rfl (Nat.le_of_ble_eq_true rfl) dX2_isOnAnother_14 rfl (kJ fun hv4 jv5 hw => ?_)
  refine r_lstore_n C dX2_isOnAnother_17 [(2, .long jv5), (0, .ref (G.1 + a0)), (1, .int x1)] (by decide) rfl ?_
  refine r_iconst (v := 0) C dX2_isOnAnother_18 (by decide) ?_
  refine r_istore C dX2_isOnAnother_19 [(4, .int 0), (2, .long jv5), (0, .ref (G.1 + a0)), (1, .int x1)] (by decide) rfl ?_
  refine r_sub [2, 3, 1, 0] rfl ?_
  obtain ⟨n, hw⟩ := hw
  exact tl_X2_isOnAnother_21 C hr  n _ _ _ _ _ hw
theorem dX2_readNewRaft_0 : decode cX2_readNewRaft 0 = .ok (.aload_n 0, 1) := by decide +kernel
theorem dX2_readNewRaft_1 : decode cX2_readNewRaft 1 = .ok (.getfield 12, 3) := by decide +kernel
theorem dX2_readNewRaft_4 : decode cX2_readNewRaft 4 = .ok (.getfield 108, 3) := by decide +kernel
theorem dX2_readNewRaft_7 : decode cX2_readNewRaft 7 = .ok (.istore_n 1, 1) := by decide +kernel
theorem dX2_readNewRaft_8 : decode cX2_readNewRaft 8 = .ok (.iload_n 1, 1) := by decide +kernel
theorem dX2_readNewRaft_9 : decode cX2_readNewRaft 9 = .ok (.bipush 8, 2) := by decide +kernel
theorem dX2_readNewRaft_11 : decode cX2_readNewRaft 11 = .ok (.if_icmp .lt 9, 3) := by decide +kernel
theorem dX2_readNewRaft_14 : decode cX2_readNewRaft 14 = .ok (.aload_n 0, 1) := by decide +kernel
theorem dX2_readNewRaft_15 : decode cX2_readNewRaft 15 = .ok (.iconst 4, 1) := by decide +kernel
theorem dX2_readNewRaft_16 : decode cX2_readNewRaft 16 = .ok (.invokevirtual 69, 3) := by decide +kernel
theorem dX2_readNewRaft_19 : decode cX2_readNewRaft 19 = .ok (.return_, 1) := by decide +kernel
theorem dX2_readNewRaft_20 : decode cX2_readNewRaft 20 = .ok (.aload_n 0, 1) := by decide +kernel
theorem dX2_readNewRaft_21 : decode cX2_readNewRaft 21 = .ok (.getfield 12, 3) := by decide +kernel
theorem dX2_readNewRaft_24 : decode cX2_readNewRaft 24 = .ok (.getfield 111, 3) := by decide +kernel
theorem dX2_readNewRaft_27 : decode cX2_readNewRaft 27 = .ok (.iload_n 1, 1) := by decide +kernel
theorem dX2_readNewRaft_28 : decode cX2_readNewRaft 28 = .ok (.aload_n 0, 1) := by decide +kernel
theorem dX2_readNewRaft_29 : decode cX2_readNewRaft 29 = .ok (.invokevirtual 114, 3) := by decide +kernel
theorem dX2_readNewRaft_32 : decode cX2_readNewRaft 32 = .ok (.iastore, 1) := by decide +kernel
theorem dX2_readNewRaft_33 : decode cX2_readNewRaft 33 = .ok (.aload_n 0, 1) := by decide +kernel
theorem dX2_readNewRaft_34 : decode cX2_readNewRaft 34 = .ok (.getfield 12, 3) := by decide +kernel
theorem dX2_readNewRaft_37 : decode cX2_readNewRaft 37 = .ok (.aload_n 0, 1) := by decide +kernel
theorem dX2_readNewRaft_38 : decode cX2_readNewRaft 38 = .ok (.getfield 12, 3) := by decide +kernel
theorem dX2_readNewRaft_41 : decode cX2_readNewRaft 41 = .ok (.getfield 111, 3) := by decide +kernel
theorem dX2_readNewRaft_44 : decode cX2_readNewRaft 44 = .ok (.iload_n 1, 1) := by decide +kernel
theorem dX2_readNewRaft_45 : decode cX2_readNewRaft 45 = .ok (.iaload, 1) := by decide +kernel
theorem dX2_readNewRaft_46 : decode cX2_readNewRaft 46 = .ok (.invokevirtual 118, 3) := by decide +kernel
theorem dX2_readNewRaft_49 : decode cX2_readNewRaft 49 = .ok (.ifCond .lt 8, 3) := by decide +kernel
theorem dX2_readNewRaft_52 : decode cX2_readNewRaft 52 = .ok (.aload_n 0, 1) := by decide +kernel
theorem dX2_readNewRaft_53 : decode cX2_readNewRaft 53 = .ok (.iconst 3, 1) := by decide +kernel
theorem dX2_readNewRaft_54 : decode cX2_readNewRaft 54 = .ok (.invokevirtual 69, 3) := by decide +kernel
theorem dX2_readNewRaft_57 : decode cX2_readNewRaft 57 = .ok (.aload_n 0, 1) := by decide +kernel
theorem dX2_readNewRaft_58 : decode cX2_readNewRaft 58 = .ok (.getfield 12, 3) := by decide +kernel
theorem dX2_readNewRaft_61 : decode cX2_readNewRaft 61 = .ok (.getfield 122, 3) := by decide +kernel
theorem dX2_readNewRaft_64 : decode cX2_readNewRaft 64 = .ok (.iload_n 1, 1) := by decide +kernel
theorem dX2_readNewRaft_65 : decode cX2_readNewRaft 65 = .ok (.aload_n 0, 1) := by decide +kernel
theorem dX2_readNewRaft_66 : decode cX2_readNewRaft 66 = .ok (.iconst 1, 1) := by decide +kernel
theorem dX2_readNewRaft_67 : decode cX2_readNewRaft 67 = .ok (.iconst 3, 1) := by decide +kernel
theorem dX2_readNewRaft_68 : decode cX2_readNewRaft 68 = .ok (.invokevirtual 100, 3) := by decide +kernel
theorem dX2_readNewRaft_71 : decode cX2_readNewRaft 71 = .ok (.iastore, 1) := by decide +kernel
theorem dX2_readNewRaft_72 : decode cX2_readNewRaft 72 = .ok (.aload_n 0, 1) := by decide +kernel
theorem dX2_readNewRaft_73 : decode cX2_readNewRaft 73 = .ok (.getfield 12, 3) := by decide +kernel
theorem dX2_readNewRaft_76 : decode cX2_readNewRaft 76 = .ok (.getfield 125, 3) := by decide +kernel
theorem dX2_readNewRaft_79 : decode cX2_readNewRaft 79 = .ok (.iload_n 1, 1) := by decide +kernel
theorem dX2_readNewRaft_80 : decode cX2_readNewRaft 80 = .ok (.aload_n 0, 1) := by decide +kernel
theorem dX2_readNewRaft_81 : decode cX2_readNewRaft 81 = .ok (.iconst 1, 1) := by decide +kernel
theorem dX2_readNewRaft_82 : decode cX2_readNewRaft 82 = .ok (.iconst 3, 1) := by decide +kernel
theorem dX2_readNewRaft_83 : decode cX2_readNewRaft 83 = .ok (.invokevirtual 100, 3) := by decide +kernel
theorem dX2_readNewRaft_86 : decode cX2_readNewRaft 86 = .ok (.iastore, 1) := by decide +kernel
theorem dX2_readNewRaft_87 : decode cX2_readNewRaft 87 = .ok (.aload_n 0, 1) := by decide +kernel
theorem dX2_readNewRaft_88 : decode cX2_readNewRaft 88 = .ok (.getfield 12, 3) := by decide +kernel
theorem dX2_readNewRaft_91 : decode cX2_readNewRaft 91 = .ok (.getfield 128, 3) := by decide +kernel
theorem dX2_readNewRaft_94 : decode cX2_readNewRaft 94 = .ok (.iload_n 1, 1) := by decide +kernel
theorem dX2_readNewRaft_95 : decode cX2_readNewRaft 95 = .ok (.aload_n 0, 1) := by decide +kernel
theorem dX2_readNewRaft_96 : decode cX2_readNewRaft 96 = .ok (.iconst 0, 1) := by decide +kernel
theorem dX2_readNewRaft_97 : decode cX2_readNewRaft 97 = .ok (.bipush 9, 2) := by decide +kernel
theorem dX2_readNewRaft_99 : decode cX2_readNewRaft 99 = .ok (.invokevirtual 100, 3) := by decide +kernel
theorem dX2_readNewRaft_102 : decode cX2_readNewRaft 102 = .ok (.iastore, 1) := by decide +kernel
theorem dX2_readNewRaft_103 : decode cX2_readNewRaft 103 = .ok (.aload_n 0, 1) := by decide +kernel
theorem dX2_readNewRaft_104 : decode cX2_readNewRaft 104 = .ok (.getfield 12, 3) := by decide +kernel
theorem dX2_readNewRaft_107 : decode cX2_readNewRaft 107 = .ok (.getfield 131, 3) := by decide +kernel
theorem dX2_readNewRaft_110 : decode cX2_readNewRaft 110 = .ok (.iload_n 1, 1) := by decide +kernel
theorem dX2_readNewRaft_111 : decode cX2_readNewRaft 111 = .ok (.aload_n 0, 1) := by decide +kernel
theorem dX2_readNewRaft_112 : decode cX2_readNewRaft 112 = .ok (.invokevirtual 134, 3) := by decide +kernel
theorem dX2_readNewRaft_115 : decode cX2_readNewRaft 115 = .ok (.iastore, 1) := by decide +kernel
theorem dX2_readNewRaft_116 : decode cX2_readNewRaft 116 = .ok (.aload_n 0, 1) := by decide +kernel
theorem dX2_readNewRaft_117 : decode cX2_readNewRaft 117 = .ok (.getfield 12, 3) := by decide +kernel
theorem dX2_readNewRaft_120 : decode cX2_readNewRaft 120 = .ok (.iload_n 1, 1) := by decide +kernel
theorem dX2_readNewRaft_121 : decode cX2_readNewRaft 121 = .ok (.aload_n 0, 1) := by decide +kernel
theorem dX2_readNewRaft_122 : decode cX2_readNewRaft 122 = .ok (.getfield 12, 3) := by decide +kernel
theorem dX2_readNewRaft_125 : decode cX2_readNewRaft 125 = .ok (.getfield 131, 3) := by decide +kernel
theorem dX2_readNewRaft_128 : decode cX2_readNewRaft 128 = .ok (.iload_n 1, 1) := by decide +kernel
theorem dX2_readNewRaft_129 : decode cX2_readNewRaft 129 = .ok (.iaload, 1) := by decide +kernel
theorem dX2_readNewRaft_130 : decode cX2_readNewRaft 130 = .ok (.invokevirtual 137, 3) := by decide +kernel
theorem dX2_readNewRaft_133 : decode cX2_readNewRaft 133 = .ok (.ifCond .ne 8, 3) := by decide +kernel
theorem dX2_readNewRaft_136 : decode cX2_readNewRaft 136 = .ok (.aload_n 0, 1) := by decide +kernel
theorem dX2_readNewRaft_137 : decode cX2_readNewRaft 137 = .ok (.iconst 2, 1) := by decide +kernel
theorem dX2_readNewRaft_138 : decode cX2_readNewRaft 138 = .ok (.invokevirtual 69, 3) := by decide +kernel
theorem dX2_readNewRaft_141 : decode cX2_readNewRaft 141 = .ok (.aload_n 0, 1) := by decide +kernel
theorem dX2_readNewRaft_142 : decode cX2_readNewRaft 142 = .ok (.iload_n 1, 1) := by decide +kernel
theorem dX2_readNewRaft_143 : decode cX2_readNewRaft 143 = .ok (.invokevirtual 141, 3) := by decide +kernel
theorem dX2_readNewRaft_146 : decode cX2_readNewRaft 146 = .ok (.ifCond .eq 8, 3) := by decide +kernel
theorem dX2_readNewRaft_149 : decode cX2_readNewRaft 149 = .ok (.aload_n 0, 1) := by decide +kernel
theorem dX2_readNewRaft_150 : decode cX2_readNewRaft 150 = .ok (.iconst 3, 1) := by decide +kernel
theorem dX2_readNewRaft_151 : decode cX2_readNewRaft 151 = .ok (.invokevirtual 69, 3) := by decide +kernel
theorem dX2_readNewRaft_154 : decode cX2_readNewRaft 154 = .ok (.aload_n 0, 1) := by decide +kernel
theorem dX2_readNewRaft_155 : decode cX2_readNewRaft 155 = .ok (.getfield 12, 3) := by decide +kernel
theorem dX2_readNewRaft_158 : decode cX2_readNewRaft 158 = .ok (.dup, 1) := by decide +kernel
theorem dX2_readNewRaft_159 : decode cX2_readNewRaft 159 = .ok (.getfield 108, 3) := by decide +kernel
theorem dX2_readNewRaft_162 : decode cX2_readNewRaft 162 = .ok (.iconst 1, 1) := by decide +kernel
theorem dX2_readNewRaft_163 : decode cX2_readNewRaft 163 = .ok (.iadd, 1) := by decide +kernel
theorem dX2_readNewRaft_164 : decode cX2_readNewRaft 164 = .ok (.putfield 108, 3) := by decide +kernel
theorem dX2_readNewRaft_167 : decode cX2_readNewRaft 167 = .ok (.return_, 1) := by decide +kernel
def wb_X2_readNewRaft_154  (h : AH) (al0 : Nat)  (post : AH → Prop) : Prop := (ob h al0 2) ∧ (∃ rv1, aP h al0 12 = some rv1 ∧ ((ob h rv1 1) ∧ ((ob h rv1 1) ∧ (∀ hv2 : AH, hv2 = hI h rv1 5 ((aI h rv1 5) + (1 : Int32)) → (post hv2)))))
set_option maxRecDepth 100000 in
theorem tb_X2_readNewRaft_154 {G : GG} {p : Program} {l : Launch} {e : Env} {R : Room} {s : State} {m : MethodId} {args : Array Value} {below : List Frame} {meth : Method} {c : Code} {n0 s0 : Nat} {post : AH → Prop} (C : Cx G p R s m args meth c 2 cX2_readNewRaft RX2 n0 s0 4 88) (hr : meth.sig.returnType = none)   {h : AH} {al0 : Nat}  (hw : wb_X2_readNewRaft_154  h al0 post) : AW G p l e R s m args below meth c 2 (QM G (pV post) args s below n0 s0) 154 [(0, .ref (G.1 + al0))] [] h := by
  unfold wb_X2_readNewRaft_154 at hw
  refine r_aload_n C dX2_readNewRaft_154 0 rfl ?_
  have hob := hw.1
  obtain ⟨rv1, hp, hw⟩ := hw.2
  refine r_getP C fl_RX2_12_2 hob hp (fun _ _ _ => rfl) dX2_readNewRaft_155 ?_
  refine r_dup C dX2_readNewRaft_158 rfl ?_
  refine r_getI C fl_RX2_108_1 hw.1 (fun _ _ _ => rfl) dX2_readNewRaft_159 ?_
  replace hw := hw.2
  refine r_iconst (v := 1) C dX2_readNewRaft_162 (by decide) ?_
  refine r_iadd C dX2_readNewRaft_163 ?_
  refine r_putI C fp_RX2_108_1 hw.1 rfl dX2_readNewRaft_164 ?_
  replace hw := hw.2
  refine r_toph fun hv2 ehv2 => ?_
  replace hw := hw hv2 ehv2
  exact r_vret C hr dX2_readNewRaft_167 hw
def wb_X2_readNewRaft_141  (h : AH) (al0 : Nat) (xl1 : Int32)  (post : AH → Prop) : Prop := (ob h al0 2) ∧ wp_X2_isOnAnother h al0 xl1 (fun hv1 iv2 => (iv2 = 0 → (wb_X2_readNewRaft_154  hv1 al0 post)) ∧ (¬ iv2 = 0 → ((ob hv1 al0 2) ∧ wp_X7_fail 2 hv1 al0 3 (fun hv3  => wb_X2_readNewRaft_154  hv3 al0 post))))
set_option maxRecDepth 100000 in
theorem tb_X2_readNewRaft_141 {G : GG} {p : Program} {l : Launch} {e : Env} {R : Room} {s : State} {m : MethodId} {args : Array Value} {below : List Frame} {meth : Method} {c : Code} {n0 s0 : Nat} {post : AH → Prop} (C : Cx G p R s m args meth c 2 cX2_readNewRaft RX2 n0 s0 4 88) (hr : meth.sig.returnType = none)   {h : AH} {al0 : Nat} {xl1 : Int32}  (hw : wb_X2_readNewRaft_141  h al0 xl1 post) : AW G p l e R s m args below meth c 2 (QM G (pV post) args s below n0 s0) 141 [(0, .ref (G.1 + al0)), (1, .int xl1)] [] h := by
  unfold wb_X2_readNewRaft_141 at hw
  refine r_aload_n C dX2_readNewRaft_141 0 rfl ?_
  refine r_iload_n C dX2_readNewRaft_142 1 rfl ?_
  have hob := hw.1
  replace hw := hw.2
  refine r_callV C (As := [.int xl1]) (rest := []) (c_X2_isOnAnother G h al0 xl1 _ hw) yl_X2_isOnAnother (gm3 (List.mem_of_getElem? (i := 218) rfl) rfl) (gm3 (List.mem_of_getElem? (i := 220) rfl) rfl) (ci := 2) rfl (by decide) (gsel (List.mem_of_getElem? (i := 6) rfl)) hob (by decide) rfl (Nat.le_of_ble_eq_true rfl) dX2_readNewRaft_143 rfl (kI fun hv1 iv2 hw => ?_)
  refine r_if_eq C dX2_readNewRaft_146 154 (by decide) (fun hc => ?_) (fun hc => ?_)
  · replace hw := hw.1 hc
    refine r_sub [0] rfl ?_
    exact tb_X2_readNewRaft_154 C hr  hw
  · replace hw := hw.2 hc
    refine r_aload_n C dX2_readNewRaft_149 0 rfl ?_
    refine r_iconst (v := 3) C dX2_readNewRaft_150 (by decide) ?_
    have hob := hw.1
    replace hw := hw.2
    refine r_callU C (x := ⟨RX2, "fail", "(I)V"⟩) (As := [.int 3]) (rest := []) (c_X7_fail (by decide) G hv1 al0 3 _ hw) yl_X7_fail (gm3 (List.mem_of_getElem? (i := 166) rfl) rfl) (gm3 (List.mem_of_getElem? (i := 157) rfl) rfl) (ci := 2) rfl (by decide) (gm3 (List.mem_of_getElem? (i := 167) rfl) rfl) (gm3 (List.mem_of_getElem? (i := 169) rfl) rfl) rfl hob (by decide) rfl (Nat.le_of_ble_eq_true rfl) dX2_readNewRaft_151 rfl (kV fun hv3  hw => ?_)
    refine r_sub [0] rfl ?_
    exact tb_X2_readNewRaft_154 C hr  hw
def wb_X2_readNewRaft_57  (h : AH) (al0 : Nat) (xl1 : Int32)  (post : AH → Prop) : Prop := (ob h al0 2) ∧ (∃ rv1, aP h al0 12 = some rv1 ∧ ((ob h rv1 1) ∧ (∃ rv2, aP h rv1 7 = some rv2 ∧ ((ob h al0 2) ∧ wp_X7_readNumber 2 h al0 1 3 (fun hv3 iv4 => (ob hv3 rv2 13) ∧ ((vp_in xl1 (aL hv3 rv2)) ∧ (∀ hv5 : AH, hv5 = hI hv3 rv2 xl1.toNatClampNeg iv4 → ((ob hv5 al0 2) ∧ (∃ rv6, aP hv5 al0 12 = some rv6 ∧ ((ob hv5 rv6 1) ∧ (∃ rv7, aP hv5 rv6 8 = some rv7 ∧ ((ob hv5 al0 2) ∧ wp_X7_readNumber 2 hv5 al0 1 3 (fun hv8 iv9 => (ob hv8 rv7 13) ∧ ((vp_in xl1 (aL hv8 rv7)) ∧ (∀ hv10 : AH, hv10 = hI hv8 rv7 xl1.toNatClampNeg iv9 → ((ob hv10 al0 2) ∧ (∃ rv11, aP hv10 al0 12 = some rv11 ∧ ((ob hv10 rv11 1) ∧ (∃ rv12, aP hv10 rv11 9 = some rv12 ∧ ((ob hv10 al0 2) ∧ wp_X7_readNumber 2 hv10 al0 0 9 (fun hv13 iv14 => (ob hv13 rv12 13) ∧ ((vp_in xl1 (aL hv13 rv12)) ∧ (∀ hv15 : AH, hv15 = hI hv13 rv12 xl1.toNatClampNeg iv14 → ((ob hv15 al0 2) ∧ (∃ rv16, aP hv15 al0 12 = some rv16 ∧ ((ob hv15 rv16 1) ∧ (∃ rv17, aP hv15 rv16 10 = some rv17 ∧ ((ob hv15 al0 2) ∧ wp_X2_readCell hv15 al0  (fun hv18 iv19 => (ob hv18 rv17 13) ∧ ((vp_in xl1 (aL hv18 rv17)) ∧ (∀ hv20 : AH, hv20 = hI hv18 rv17 xl1.toNatClampNeg iv19 → ((ob hv20 al0 2) ∧ (∃ rv21, aP hv20 al0 12 = some rv21 ∧ ((ob hv20 al0 2) ∧ (∃ rv22, aP hv20 al0 12 = some rv22 ∧ ((ob hv20 rv22 1) ∧ (∃ rv23, aP hv20 rv22 10 = some rv23 ∧ ((ob hv20 rv23 13) ∧ ((vp_in xl1 (aL hv20 rv23)) ∧ ((ob hv20 rv21 1) ∧ wp_X1_holds hv20 rv21 xl1 (aI hv20 rv23 xl1.toNatClampNeg) (fun hv24 iv25 => (¬ iv25 = 0 → (wb_X2_readNewRaft_141  hv24 al0 xl1 post)) ∧ (iv25 = 0 → ((ob hv24 al0 2) ∧ wp_X7_fail 2 hv24 al0 2 (fun hv26  => wb_X2_readNewRaft_141  hv26 al0 xl1 post))))))))))))))))))))))))))))))))))))))))))))
set_option maxRecDepth 100000 in
theorem tb_X2_readNewRaft_57 {G : GG} {p : Program} {l : Launch} {e : Env} {R : Room} {s : State} {m : MethodId} {args : Array Value} {below : List Frame} {meth : Method} {c : Code} {n0 s0 : Nat} {post : AH → Prop} (C : Cx G p R s m args meth c 2 cX2_readNewRaft RX2 n0 s0 4 88) (hr : meth.sig.returnType = none)   {h : AH} {al0 : Nat} {xl1 : Int32}  (hw : wb_X2_readNewRaft_57  h al0 xl1 post) : AW G p l e R s m args below meth c 2 (QM G (pV post) args s below n0 s0) 57 [(0, .ref (G.1 + al0)), (1, .int xl1)] [] h := by
  unfold wb_X2_readNewRaft_57 at hw
  refine r_aload_n C dX2_readNewRaft_57 0 rfl ?_
  have hob := hw.1
  obtain ⟨rv1, hp, hw⟩ := hw.2
  refine r_getP C fl_RX2_12_2 hob hp (fun _ _ _ => rfl) dX2_readNewRaft_58 ?_
  have hob := hw.1
  obtain ⟨rv2, hp, hw⟩ := hw.2
  refine r_getP C fl_RX2_122_1 hob hp (fun _ _ _ => rfl) dX2_readNewRaft_61 ?_
  refine r_iload_n C dX2_readNewRaft_64 1 rfl ?_
  refine r_aload_n C dX2_readNewRaft_65 0 rfl ?_
  refine r_iconst (v := 1) C dX2_readNewRaft_66 (by decide) ?_
  refine r_iconst (v := 3) C dX2_readNewRaft_67 (by decide) ?_
  have hob := hw.1
  replace hw := hw.2
  refine r_callU C (x := ⟨RX2, "readNumber", "(II)I"⟩) (As := [.int 1, .int 3]) (rest := [.int xl1, .ref (G.1 + rv2)]) (c_X7_readNumber (by decide) G h al0 1 3 _ hw) yl_X7_readNumber (gm3 (List.mem_of_getElem? (i := 182) rfl) rfl) (gm3 (List.mem_of_getElem? (i := 186) rfl) rfl) (ci := 2) rfl (by decide) (gm3 (List.mem_of_getElem? (i := 183) rfl) rfl) (gm3 (List.mem_of_getElem? (i := 185) rfl) rfl) rfl hob (by decide) rfl (Nat.le_of_ble_eq_true rfl) dX2_readNewRaft_68 rfl (kI fun hv3 iv4 hw => ?_)
  refine r_iastore C hw.1 hw.2.1 dX2_readNewRaft_71 ?_
  replace hw := hw.2.2
  refine r_toph fun hv5 ehv5 => ?_
  replace hw := hw hv5 ehv5
  refine r_aload_n C dX2_readNewRaft_72 0 rfl ?_
  have hob := hw.1
  obtain ⟨rv6, hp, hw⟩ := hw.2
  refine r_getP C fl_RX2_12_2 hob hp (fun _ _ _ => rfl) dX2_readNewRaft_73 ?_
  have hob := hw.1
  obtain ⟨rv7, hp, hw⟩ := hw.2
  refine r_getP C fl_RX2_125_1 hob hp (fun _ _ _ => rfl) dX2_readNewRaft_76 ?_
  refine r_iload_n C dX2_readNewRaft_79 1 rfl ?_
  refine r_aload_n C dX2_readNewRaft_80 0 rfl ?_
  refine r_iconst (v := 1) C dX2_readNewRaft_81 (by decide) ?_
  refine r_iconst (v := 3) C dX2_readNewRaft_82 (by decide) ?_
  have hob := hw.1
  replace hw := hw.2
  refine r_callU C (x := ⟨RX2, "readNumber", "(II)I"⟩) (As := [.int 1, .int 3]) (rest := [.int xl1, .ref (G.1 + rv7)]) (c_X7_readNumber (by decide) G hv5 al0 1 3 _ hw) yl_X7_readNumber (gm3 (List.mem_of_getElem? (i := 182) rfl) rfl) (gm3 (List.mem_of_getElem? (i := 186) rfl) rfl) (ci := 2) rfl (by decide) (gm3 (List.mem_of_getElem? (i := 183) rfl) rfl) (gm3 (List.mem_of_getElem? (i := 185) rfl) rfl) rfl hob (by decide) rfl (Nat.le_of_ble_eq_true rfl) dX2_readNewRaft_83 rfl (kI fun hv8 iv9 hw => ?_)
  refine r_iastore C hw.1 hw.2.1 dX2_readNewRaft_86 ?_
  replace hw := hw.2.2
  refine r_toph fun hv10 ehv10 => ?_
  replace hw := hw hv10 ehv10
  refine r_aload_n C dX2_readNewRaft_87 0 rfl ?_
  have hob := hw.1
  obtain ⟨rv11, hp, hw⟩ := hw.2
  refine r_getP C fl_RX2_12_2 hob hp (fun _ _ _ => rfl) dX2_readNewRaft_88 ?_
  have hob := hw.1
  obtain ⟨rv12, hp, hw⟩ := hw.2
  refine r_getP C fl_RX2_128_1 hob hp (fun _ _ _ => rfl) dX2_readNewRaft_91 ?_
  refine r_iload_n C dX2_readNewRaft_94 1 rfl ?_
  refine r_aload_n C dX2_readNewRaft_95 0 rfl ?_
  refine r_iconst (v := 0) C dX2_readNewRaft_96 (by decide) ?_
  refine r_bipush (v := 9) C dX2_readNewRaft_97 (by decide) ?_
  have hob := hw.1
  replace hw := hw.2
  refine r_callU C (x := ⟨RX2, "readNumber", "(II)I"⟩) (As := [.int 0, .int 9]) (rest := [.int xl1, .ref (G.1 + rv12)]) (c_X7_readNumber (by decide) G hv10 al0 0 9 _ hw) yl_X7_readNumber (gm3 (List.mem_of_getElem? (i := 182) rfl) rfl) (gm3 (List.mem_of_getElem? (i := 186) rfl) rfl) (ci := 2) rfl (by decide) (gm3 (List.mem_of_getElem? (i := 183) rfl) rfl) (gm3 (List.mem_of_getElem? (i := 185) rfl) rfl) rfl hob (by decide) rfl (Nat.le_of_ble_eq_true rfl) dX2_readNewRaft_99 rfl (kI fun hv13 iv14 hw => ?_)
  refine r_iastore C hw.1 hw.2.1 dX2_readNewRaft_102 ?_
  replace hw := hw.2.2
  refine r_toph fun hv15 ehv15 => ?_
  replace hw := hw hv15 ehv15
  refine r_aload_n C dX2_readNewRaft_103 0 rfl ?_
  have hob := hw.1
  obtain ⟨rv16, hp, hw⟩ := hw.2
  refine r_getP C fl_RX2_12_2 hob hp (fun _ _ _ => rfl) dX2_readNewRaft_104 ?_
  have hob := hw.1
  obtain ⟨rv17, hp, hw⟩ := hw.2
  refine r_getP C fl_RX2_131_1 hob hp (fun _ _ _ => rfl) dX2_readNewRaft_107 ?_
  refine r_iload_n C dX2_readNewRaft_110 1 rfl ?_
  refine r_aload_n C dX2_readNewRaft_111 0 rfl ?_
  have hob := hw.1
  replace hw := hw.2
  refine r_callV C (As := []) (rest := [.int xl1, .ref (G.1 + rv17)]) (c_X2_readCell G hv15 al0  _ hw) yl_X2_readCell (gm3 (List.mem_of_getElem? (i := 202) rfl) rfl) (gm3 (List.mem_of_getElem? (i := 204) rfl) rfl) (ci := 2) rfl (by decide) (gsel (List.mem_of_getElem? (i := 5) rfl)) hob (by decide) rfl (Nat.le_of_ble_eq_true rfl) dX2_readNewRaft_112 rfl (kI fun hv18 iv19 hw => ?_)
  refine r_iastore C hw.1 hw.2.1 dX2_readNewRaft_115 ?_
  replace hw := hw.2.2
  refine r_toph fun hv20 ehv20 => ?_
  replace hw := hw hv20 ehv20
  refine r_aload_n C dX2_readNewRaft_116 0 rfl ?_
  have hob := hw.1
  obtain ⟨rv21, hp, hw⟩ := hw.2
  refine r_getP C fl_RX2_12_2 hob hp (fun _ _ _ => rfl) dX2_readNewRaft_117 ?_
  refine r_iload_n C dX2_readNewRaft_120 1 rfl ?_
  refine r_aload_n C dX2_readNewRaft_121 0 rfl ?_
  have hob := hw.1
  obtain ⟨rv22, hp, hw⟩ := hw.2
  refine r_getP C fl_RX2_12_2 hob hp (fun _ _ _ => rfl) dX2_readNewRaft_122 ?_
  have hob := hw.1
  obtain ⟨rv23, hp, hw⟩ := hw.2
  refine r_getP C fl_RX2_131_1 hob hp (fun _ _ _ => rfl) dX2_readNewRaft_125 ?_
  refine r_iload_n C dX2_readNewRaft_128 1 rfl ?_
  refine r_iaload C hw.1 hw.2.1 dX2_readNewRaft_129 ?_
  replace hw := hw.2.2
  have hob := hw.1
  replace hw := hw.2
  refine r_callV C (As := [.int xl1, .int (aI hv20 rv23 xl1.toNatClampNeg)]) (rest := []) (c_X1_holds G hv20 rv21 xl1 (aI hv20 rv23 xl1.toNatClampNeg) _ hw) yl_X1_holds (gm3 (List.mem_of_getElem? (i := 206) rfl) rfl) (gm3 (List.mem_of_getElem? (i := 207) rfl) rfl) (ci := 1) rfl (by decide) (gm3 (List.mem_of_getElem? (i := 208) rfl) rfl) hob (by decide) rfl (Nat.le_of_ble_eq_true rfl) dX2_readNewRaft_130 rfl (kI fun hv24 iv25 hw => ?_)
  refine r_if_ne C dX2_readNewRaft_133 141 (by decide) (fun hc => ?_) (fun hc => ?_)
  · replace hw := hw.1 hc
    refine r_sub [0, 1] rfl ?_
    exact tb_X2_readNewRaft_141 C hr  hw
  · replace hw := hw.2 hc
    refine r_aload_n C dX2_readNewRaft_136 0 rfl ?_
    refine r_iconst (v := 2) C dX2_readNewRaft_137 (by decide) ?_
    have hob := hw.1
    replace hw := hw.2
    refine r_callU C (x := ⟨RX2, "fail", "(I)V"⟩) (As := [.int 2]) (rest := []) (c_X7_fail (by decide) G hv24 al0 2 _ hw) yl_X7_fail (gm3 (List.mem_of_getElem? (i := 166) rfl) rfl) (gm3 (List.mem_of_getElem? (i := 157) rfl) rfl) (ci := 2) rfl (by decide) (gm3 (List.mem_of_getElem? (i := 167) rfl) rfl) (gm3 (List.mem_of_getElem? (i := 169) rfl) rfl) rfl hob (by decide) rfl (Nat.le_of_ble_eq_true rfl) dX2_readNewRaft_138 rfl (kV fun hv26  hw => ?_)
    refine r_sub [0, 1] rfl ?_
    exact tb_X2_readNewRaft_141 C hr  hw
def wp_X2_readNewRaft (h : AH) (a0 : Nat) (post : AH → Prop) : Prop := (ob h a0 2) ∧ (∃ rv1, aP h a0 12 = some rv1 ∧ ((ob h rv1 1) ∧ (∀ iv2 : Int32, iv2 = aI h rv1 5 → ((iv2 < 8 → ((ob h a0 2) ∧ (∃ rv3, aP h a0 12 = some rv3 ∧ ((ob h rv3 1) ∧ (∃ rv4, aP h rv3 6 = some rv4 ∧ ((ob h a0 2) ∧ wp_X7_readName 2 h a0  (fun hv5 iv6 => (ob hv5 rv4 13) ∧ ((vp_in iv2 (aL hv5 rv4)) ∧ (∀ hv7 : AH, hv7 = hI hv5 rv4 iv2.toNatClampNeg iv6 → ((ob hv7 a0 2) ∧ (∃ rv8, aP hv7 a0 12 = some rv8 ∧ ((ob hv7 a0 2) ∧ (∃ rv9, aP hv7 a0 12 = some rv9 ∧ ((ob hv7 rv9 1) ∧ (∃ rv10, aP hv7 rv9 6 = some rv10 ∧ ((ob hv7 rv10 13) ∧ ((vp_in iv2 (aL hv7 rv10)) ∧ ((ob hv7 rv8 1) ∧ wp_X1_raftNamed hv7 rv8 (aI hv7 rv10 iv2.toNatClampNeg) (fun hv11 iv12 => (iv12 < 0 → (wb_X2_readNewRaft_57  hv11 a0 iv2 post)) ∧ (¬ iv12 < 0 → ((ob hv11 a0 2) ∧ wp_X7_fail 2 hv11 a0 3 (fun hv13  => wb_X2_readNewRaft_57  hv13 a0 iv2 post)))))))))))))))))))))) ∧ (¬ iv2 < 8 → ((ob h a0 2) ∧ wp_X7_fail 2 h a0 4 (fun hv14  => post hv14)))))))
set_option maxRecDepth 100000 in
theorem c_X2_readNewRaft (G : GG) (h : AH) (a0 : Nat) (post : AH → Prop) (hw : wp_X2_readNewRaft h a0 post) : MC G yX2_readNewRaft cX2_readNewRaft 2 none 4 88 h [.ref (G.1 + a0)] (pV post) := by
  refine MC.of (lv := [(0, .ref (G.1 + a0))]) (by decide) (Nat.le_of_ble_eq_true rfl) rfl fun p l e R s m args below meth c C hr hnm => ?_
  unfold wp_X2_readNewRaft at hw
  refine r_aload_n C dX2_readNewRaft_0 0 rfl ?_
  have hob := hw.1
  obtain ⟨rv1, hp, hw⟩ := hw.2
  refine r_getP C fl_RX2_12_2 hob hp (fun _ _ _ => rfl) dX2_readNewRaft_1 ?_
  refine r_getI C fl_RX2_108_1 hw.1 (fun _ _ _ => rfl) dX2_readNewRaft_4 ?_
  replace hw := hw.2
  refine r_topi fun iv2 eiv2 => ?_
  replace hw := hw iv2 eiv2
  refine r_istore_n C dX2_readNewRaft_7 [(1, .int iv2), (0, .ref (G.1 + a0))] (by decide) rfl ?_
  refine r_iload_n C dX2_readNewRaft_8 0 rfl ?_
  refine r_bipush (v := 8) C dX2_readNewRaft_9 (by decide) ?_
  refine r_icmp_lt C dX2_readNewRaft_11 20 (by decide) (fun hc => ?_) (fun hc => ?_)
  · replace hw := hw.1 hc
    refine r_aload_n C dX2_readNewRaft_20 1 rfl ?_
    have hob := hw.1
    obtain ⟨rv3, hp, hw⟩ := hw.2
    refine r_getP C fl_RX2_12_2 hob hp (fun _ _ _ => rfl) dX2_readNewRaft_21 ?_
    have hob := hw.1
    obtain ⟨rv4, hp, hw⟩ := hw.2
    refine r_getP C fl_RX2_111_1 hob hp (fun _ _ _ => rfl) dX2_readNewRaft_24 ?_
    refine r_iload_n C dX2_readNewRaft_27 0 rfl ?_
    refine r_aload_n C dX2_readNewRaft_28 1 rfl ?_
    have hob := hw.1
    replace hw := hw.2
    refine r_callU C (x := ⟨RX2, "readName", "()I"⟩) (As := []) (rest := [.int iv2, .ref (G.1 + rv4)]) (c_X7_readName (by decide) G h a0  _ hw) yl_X7_readName (gm3 (List.mem_of_getElem? (i := 192) rfl) rfl) (gm3 (List.mem_of_getElem? (i := 196) rfl) rfl) (ci := 2) rfl (by decide) (gm3 (List.mem_of_getElem? (i := 193) rfl) rfl) (gm3 (List.mem_of_getElem? (i := 195) rfl) rfl) rfl hob (by decide) rfl (Nat.le_of_ble_eq_true rfl) dX2_readNewRaft_29 rfl (kI fun hv5 iv6 hw => ?_)
    refine r_iastore C hw.1 hw.2.1 dX2_readNewRaft_32 ?_
    replace hw := hw.2.2
    refine r_toph fun hv7 ehv7 => ?_
    replace hw := hw hv7 ehv7
    refine r_aload_n C dX2_readNewRaft_33 1 rfl ?_
    have hob := hw.1
    obtain ⟨rv8, hp, hw⟩ := hw.2
    refine r_getP C fl_RX2_12_2 hob hp (fun _ _ _ => rfl) dX2_readNewRaft_34 ?_
    refine r_aload_n C dX2_readNewRaft_37 1 rfl ?_
    have hob := hw.1
    obtain ⟨rv9, hp, hw⟩ := hw.2
    refine r_getP C fl_RX2_12_2 hob hp (fun _ _ _ => rfl) dX2_readNewRaft_38 ?_
    have hob := hw.1
    obtain ⟨rv10, hp, hw⟩ := hw.2
    refine r_getP C fl_RX2_111_1 hob hp (fun _ _ _ => rfl) dX2_readNewRaft_41 ?_
    refine r_iload_n C dX2_readNewRaft_44 0 rfl ?_
    refine r_iaload C hw.1 hw.2.1 dX2_readNewRaft_45 ?_
    replace hw := hw.2.2
    have hob := hw.1
    replace hw := hw.2
    refine r_callV C (As := [.int (aI hv7 rv10 iv2.toNatClampNeg)]) (rest := []) (c_X1_raftNamed G hv7 rv8 (aI hv7 rv10 iv2.toNatClampNeg) _ hw) yl_X1_raftNamed (gm3 (List.mem_of_getElem? (i := 198) rfl) rfl) (gm3 (List.mem_of_getElem? (i := 199) rfl) rfl) (ci := 1) rfl (by decide) (gm3 (List.mem_of_getElem? (i := 200) rfl) rfl) hob (by decide) rfl (Nat.le_of_ble_eq_true rfl) dX2_readNewRaft_46 rfl (kI fun hv11 iv12 hw => ?_)
    refine r_if_lt C dX2_readNewRaft_49 57 (by decide) (fun hc => ?_) (fun hc => ?_)
    · replace hw := hw.1 hc
      refine r_sub [1, 0] rfl ?_
      exact tb_X2_readNewRaft_57 C hr  hw
    · replace hw := hw.2 hc
      refine r_aload_n C dX2_readNewRaft_52 1 rfl ?_
      refine r_iconst (v := 3) C dX2_readNewRaft_53 (by decide) ?_
      have hob := hw.1
      replace hw := hw.2
      refine r_callU C (x := ⟨RX2, "fail", "(I)V"⟩) (As := [.int 3]) (rest := []) (c_X7_fail (by decide) G hv11 a0 3 _ hw) yl_X7_fail (gm3 (List.mem_of_getElem? (i := 166) rfl) rfl) (gm3 (List.mem_of_getElem? (i := 157) rfl) rfl) (ci := 2) rfl (by decide) (gm3 (List.mem_of_getElem? (i := 167) rfl) rfl) (gm3 (List.mem_of_getElem? (i := 169) rfl) rfl) rfl hob (by decide) rfl (Nat.le_of_ble_eq_true rfl) dX2_readNewRaft_54 rfl (kV fun hv13  hw => ?_)
      refine r_sub [1, 0] rfl ?_
      exact tb_X2_readNewRaft_57 C hr  hw
  · replace hw := hw.2 hc
    refine r_aload_n C dX2_readNewRaft_14 1 rfl ?_
    refine r_iconst (v := 4) C dX2_readNewRaft_15 (by decide) ?_
    have hob := hw.1
    replace hw := hw.2
    refine r_callU C (x := ⟨RX2, "fail", "(I)V"⟩) (As := [.int 4]) (rest := []) (c_X7_fail (by decide) G h a0 4 _ hw) yl_X7_fail (gm3 (List.mem_of_getElem? (i := 166) rfl) rfl) (gm3 (List.mem_of_getElem? (i := 157) rfl) rfl) (ci := 2) rfl (by decide) (gm3 (List.mem_of_getElem? (i := 167) rfl) rfl) (gm3 (List.mem_of_getElem? (i := 169) rfl) rfl) rfl hob (by decide) rfl (Nat.le_of_ble_eq_true rfl) dX2_readNewRaft_16 rfl (kV fun hv14  hw => ?_)
    exact r_vret C hr dX2_readNewRaft_19 hw
theorem dX2_readPole_0 : decode cX2_readPole 0 = .ok (.aload_n 0, 1) := by decide +kernel
theorem dX2_readPole_1 : decode cX2_readPole 1 = .ok (.getfield 12, 3) := by decide +kernel
theorem dX2_readPole_4 : decode cX2_readPole 4 = .ok (.getfield 149, 3) := by decide +kernel
theorem dX2_readPole_7 : decode cX2_readPole 7 = .ok (.bipush 6, 2) := by decide +kernel
theorem dX2_readPole_9 : decode cX2_readPole 9 = .ok (.if_icmp .lt 9, 3) := by decide +kernel
theorem dX2_readPole_12 : decode cX2_readPole 12 = .ok (.aload_n 0, 1) := by decide +kernel
theorem dX2_readPole_13 : decode cX2_readPole 13 = .ok (.iconst 4, 1) := by decide +kernel
theorem dX2_readPole_14 : decode cX2_readPole 14 = .ok (.invokevirtual 69, 3) := by decide +kernel
theorem dX2_readPole_17 : decode cX2_readPole 17 = .ok (.return_, 1) := by decide +kernel
theorem dX2_readPole_18 : decode cX2_readPole 18 = .ok (.aload_n 0, 1) := by decide +kernel
theorem dX2_readPole_19 : decode cX2_readPole 19 = .ok (.invokevirtual 134, 3) := by decide +kernel
theorem dX2_readPole_22 : decode cX2_readPole 22 = .ok (.istore_n 1, 1) := by decide +kernel
theorem dX2_readPole_23 : decode cX2_readPole 23 = .ok (.iconst 0, 1) := by decide +kernel
theorem dX2_readPole_24 : decode cX2_readPole 24 = .ok (.istore_n 2, 1) := by decide +kernel
theorem dX2_readPole_25 : decode cX2_readPole 25 = .ok (.iload_n 2, 1) := by decide +kernel
theorem dX2_readPole_26 : decode cX2_readPole 26 = .ok (.aload_n 0, 1) := by decide +kernel
theorem dX2_readPole_27 : decode cX2_readPole 27 = .ok (.getfield 12, 3) := by decide +kernel
theorem dX2_readPole_30 : decode cX2_readPole 30 = .ok (.getfield 149, 3) := by decide +kernel
theorem dX2_readPole_33 : decode cX2_readPole 33 = .ok (.if_icmp .ge 27, 3) := by decide +kernel
theorem dX2_readPole_36 : decode cX2_readPole 36 = .ok (.aload_n 0, 1) := by decide +kernel
theorem dX2_readPole_37 : decode cX2_readPole 37 = .ok (.getfield 12, 3) := by decide +kernel
theorem dX2_readPole_40 : decode cX2_readPole 40 = .ok (.getfield 152, 3) := by decide +kernel
theorem dX2_readPole_43 : decode cX2_readPole 43 = .ok (.iload_n 2, 1) := by decide +kernel
theorem dX2_readPole_44 : decode cX2_readPole 44 = .ok (.iaload, 1) := by decide +kernel
theorem dX2_readPole_45 : decode cX2_readPole 45 = .ok (.iload_n 1, 1) := by decide +kernel
theorem dX2_readPole_46 : decode cX2_readPole 46 = .ok (.if_icmp .ne 8, 3) := by decide +kernel
theorem dX2_readPole_49 : decode cX2_readPole 49 = .ok (.aload_n 0, 1) := by decide +kernel
theorem dX2_readPole_50 : decode cX2_readPole 50 = .ok (.iconst 3, 1) := by decide +kernel
theorem dX2_readPole_51 : decode cX2_readPole 51 = .ok (.invokevirtual 69, 3) := by decide +kernel
theorem dX2_readPole_54 : decode cX2_readPole 54 = .ok (.iinc 2 1, 3) := by decide +kernel
theorem dX2_readPole_57 : decode cX2_readPole 57 = .ok (.goto (-32), 3) := by decide +kernel
theorem dX2_readPole_60 : decode cX2_readPole 60 = .ok (.aload_n 0, 1) := by decide +kernel
theorem dX2_readPole_61 : decode cX2_readPole 61 = .ok (.getfield 12, 3) := by decide +kernel
theorem dX2_readPole_64 : decode cX2_readPole 64 = .ok (.getfield 152, 3) := by decide +kernel
theorem dX2_readPole_67 : decode cX2_readPole 67 = .ok (.aload_n 0, 1) := by decide +kernel
theorem dX2_readPole_68 : decode cX2_readPole 68 = .ok (.getfield 12, 3) := by decide +kernel
theorem dX2_readPole_71 : decode cX2_readPole 71 = .ok (.getfield 149, 3) := by decide +kernel
theorem dX2_readPole_74 : decode cX2_readPole 74 = .ok (.iload_n 1, 1) := by decide +kernel
theorem dX2_readPole_75 : decode cX2_readPole 75 = .ok (.iastore, 1) := by decide +kernel
theorem dX2_readPole_76 : decode cX2_readPole 76 = .ok (.aload_n 0, 1) := by decide +kernel
theorem dX2_readPole_77 : decode cX2_readPole 77 = .ok (.getfield 12, 3) := by decide +kernel
theorem dX2_readPole_80 : decode cX2_readPole 80 = .ok (.dup, 1) := by decide +kernel
theorem dX2_readPole_81 : decode cX2_readPole 81 = .ok (.getfield 149, 3) := by decide +kernel
theorem dX2_readPole_84 : decode cX2_readPole 84 = .ok (.iconst 1, 1) := by decide +kernel
theorem dX2_readPole_85 : decode cX2_readPole 85 = .ok (.iadd, 1) := by decide +kernel
theorem dX2_readPole_86 : decode cX2_readPole 86 = .ok (.putfield 149, 3) := by decide +kernel
theorem dX2_readPole_89 : decode cX2_readPole 89 = .ok (.return_, 1) := by decide +kernel
def wb_X2_readPole_54 (K25 : AH → Nat → Int32 → Int32 → Prop) (h : AH) (al0 : Nat) (xl1 : Int32) (xl2 : Int32)  (post : AH → Prop) : Prop := ∀ iv1 : Int32, iv1 = xl2 + 1 → (K25 h al0 xl1 iv1)
set_option maxRecDepth 100000 in
theorem tb_X2_readPole_54 {G : GG} {p : Program} {l : Launch} {e : Env} {R : Room} {s : State} {m : MethodId} {args : Array Value} {below : List Frame} {meth : Method} {c : Code} {n0 s0 : Nat} {post : AH → Prop} (C : Cx G p R s m args meth c 3 cX2_readPole RX2 n0 s0 4 88) (hr : meth.sig.returnType = none) {K25 : AH → Nat → Int32 → Int32 → Prop} (hK25 : ∀ (h : AH) (al0 : Nat) (xl1 : Int32) (xl2 : Int32), K25 h al0 xl1 xl2 → AW G p l e R s m args below meth c 3 (QM G (pV post) args s below n0 s0) 25 [(0, .ref (G.1 + al0)), (1, .int xl1), (2, .int xl2)] [] h) {h : AH} {al0 : Nat} {xl1 : Int32} {xl2 : Int32}  (hw : wb_X2_readPole_54 K25 h al0 xl1 xl2 post) : AW G p l e R s m args below meth c 3 (QM G (pV post) args s below n0 s0) 54 [(0, .ref (G.1 + al0)), (1, .int xl1), (2, .int xl2)] [] h := by
  unfold wb_X2_readPole_54 at hw
  obtain ⟨iv1, eiv1⟩ : ∃ q : Int32, q = xl2 + 1 := ⟨_, rfl⟩
  replace hw := hw iv1 eiv1
  refine r_iinc C dX2_readPole_54 2 rfl (by rw [eiv1]; rfl) [(2, .int iv1), (0, .ref (G.1 + al0)), (1, .int xl1)] (by decide) rfl ?_
  refine r_goto C dX2_readPole_57 25 (by decide) ?_
  refine r_sub [1, 2, 0] rfl ?_
  exact hK25 _ _ _ _ hw
def wb_X2_readPole_25 (K25 : AH → Nat → Int32 → Int32 → Prop) (h : AH) (al0 : Nat) (xl1 : Int32) (xl2 : Int32)  (post : AH → Prop) : Prop := (ob h al0 2) ∧ (∃ rv1, aP h al0 12 = some rv1 ∧ ((ob h rv1 1) ∧ (((aI h rv1 11) ≤ xl2 → ((ob h al0 2) ∧ (∃ rv2, aP h al0 12 = some rv2 ∧ ((ob h rv2 1) ∧ (∃ rv3, aP h rv2 12 = some rv3 ∧ ((ob h al0 2) ∧ (∃ rv4, aP h al0 12 = some rv4 ∧ ((ob h rv4 1) ∧ ((ob h rv3 13) ∧ ((vp_in (aI h rv4 11) (aL h rv3)) ∧ (∀ hv5 : AH, hv5 = hI h rv3 (aI h rv4 11).toNatClampNeg xl1 → ((ob hv5 al0 2) ∧ (∃ rv6, aP hv5 al0 12 = some rv6 ∧ ((ob hv5 rv6 1) ∧ ((ob hv5 rv6 1) ∧ (∀ hv7 : AH, hv7 = hI hv5 rv6 11 ((aI hv5 rv6 11) + (1 : Int32)) → (post hv7))))))))))))))))) ∧ (¬ (aI h rv1 11) ≤ xl2 → ((ob h al0 2) ∧ (∃ rv8, aP h al0 12 = some rv8 ∧ ((ob h rv8 1) ∧ (∃ rv9, aP h rv8 12 = some rv9 ∧ ((ob h rv9 13) ∧ ((vp_in xl2 (aL h rv9)) ∧ ((¬ (aI h rv9 xl2.toNatClampNeg) = xl1 → (wb_X2_readPole_54 K25 h al0 xl1 xl2 post)) ∧ ((aI h rv9 xl2.toNatClampNeg) = xl1 → ((ob h al0 2) ∧ wp_X7_fail 2 h al0 3 (fun hv10  => wb_X2_readPole_54 K25 hv10 al0 xl1 xl2 post))))))))))))))
set_option maxRecDepth 100000 in
theorem tb_X2_readPole_25 {G : GG} {p : Program} {l : Launch} {e : Env} {R : Room} {s : State} {m : MethodId} {args : Array Value} {below : List Frame} {meth : Method} {c : Code} {n0 s0 : Nat} {post : AH → Prop} (C : Cx G p R s m args meth c 3 cX2_readPole RX2 n0 s0 4 88) (hr : meth.sig.returnType = none) {K25 : AH → Nat → Int32 → Int32 → Prop} (hK25 : ∀ (h : AH) (al0 : Nat) (xl1 : Int32) (xl2 : Int32), K25 h al0 xl1 xl2 → AW G p l e R s m args below meth c 3 (QM G (pV post) args s below n0 s0) 25 [(0, .ref (G.1 + al0)), (1, .int xl1), (2, .int xl2)] [] h) {h : AH} {al0 : Nat} {xl1 : Int32} {xl2 : Int32}  (hw : wb_X2_readPole_25 K25 h al0 xl1 xl2 post) : AW G p l e R s m args below meth c 3 (QM G (pV post) args s below n0 s0) 25 [(0, .ref (G.1 + al0)), (1, .int xl1), (2, .int xl2)] [] h := by
  unfold wb_X2_readPole_25 at hw
  refine r_iload_n C dX2_readPole_25 2 rfl ?_
  refine r_aload_n C dX2_readPole_26 0 rfl ?_
  have hob := hw.1
  obtain ⟨rv1, hp, hw⟩ := hw.2
  refine r_getP C fl_RX2_12_2 hob hp (fun _ _ _ => rfl) dX2_readPole_27 ?_
  refine r_getI C fl_RX2_149_1 hw.1 (fun _ _ _ => rfl) dX2_readPole_30 ?_
  replace hw := hw.2
  refine r_icmp_ge C dX2_readPole_33 60 (by decide) (fun hc => ?_) (fun hc => ?_)
  · replace hw := hw.1 hc
    refine r_aload_n C dX2_readPole_60 0 rfl ?_
    have hob := hw.1
    obtain ⟨rv2, hp, hw⟩ := hw.2
    refine r_getP C fl_RX2_12_2 hob hp (fun _ _ _ => rfl) dX2_readPole_61 ?_
    have hob := hw.1
    obtain ⟨rv3, hp, hw⟩ := hw.2
    refine r_getP C fl_RX2_152_1 hob hp (fun _ _ _ => rfl) dX2_readPole_64 ?_
    refine r_aload_n C dX2_readPole_67 0 rfl ?_
    have hob := hw.1
    obtain ⟨rv4, hp, hw⟩ := hw.2
    refine r_getP C fl_RX2_12_2 hob hp (fun _ _ _ => rfl) dX2_readPole_68 ?_
    refine r_getI C fl_RX2_149_1 hw.1 (fun _ _ _ => rfl) dX2_readPole_71 ?_
    replace hw := hw.2
    refine r_iload_n C dX2_readPole_74 1 rfl ?_
    refine r_iastore C hw.1 hw.2.1 dX2_readPole_75 ?_
    replace hw := hw.2.2
    refine r_toph fun hv5 ehv5 => ?_
    replace hw := hw hv5 ehv5
    refine r_aload_n C dX2_readPole_76 0 rfl ?_
    have hob := hw.1
    obtain ⟨rv6, hp, hw⟩ := hw.2
    refine r_getP C fl_RX2_12_2 hob hp (fun _ _ _ => rfl) dX2_readPole_77 ?_
    refine r_dup C dX2_readPole_80 rfl ?_
    refine r_getI C fl_RX2_149_1 hw.1 (fun _ _ _ => rfl) dX2_readPole_81 ?_
    replace hw := hw.2
    refine r_iconst (v := 1) C dX2_readPole_84 (by decide) ?_
    refine r_iadd C dX2_readPole_85 ?_
    refine r_putI C fp_RX2_149_1 hw.1 rfl dX2_readPole_86 ?_
    replace hw := hw.2
    refine r_toph fun hv7 ehv7 => ?_
    replace hw := hw hv7 ehv7
    exact r_vret C hr dX2_readPole_89 hw
  · replace hw := hw.2 hc
    refine r_aload_n C dX2_readPole_36 0 rfl ?_
    have hob := hw.1
    obtain ⟨rv8, hp, hw⟩ := hw.2
    refine r_getP C fl_RX2_12_2 hob hp (fun _ _ _ => rfl) dX2_readPole_37 ?_
    have hob := hw.1
    obtain ⟨rv9, hp, hw⟩ := hw.2
    refine r_getP C fl_RX2_152_1 hob hp (fun _ _ _ => rfl) dX2_readPole_40 ?_
    refine r_iload_n C dX2_readPole_43 2 rfl ?_
    refine r_iaload C hw.1 hw.2.1 dX2_readPole_44 ?_
    replace hw := hw.2.2
    refine r_iload_n C dX2_readPole_45 1 rfl ?_
    refine r_icmp_ne C dX2_readPole_46 54 (by decide) (fun hc => ?_) (fun hc => ?_)
    · replace hw := hw.1 hc
      refine r_sub [0, 1, 2] rfl ?_
      exact tb_X2_readPole_54 C hr hK25 hw
    · replace hw := hw.2 hc
      refine r_aload_n C dX2_readPole_49 0 rfl ?_
      refine r_iconst (v := 3) C dX2_readPole_50 (by decide) ?_
      have hob := hw.1
      replace hw := hw.2
      refine r_callU C (x := ⟨RX2, "fail", "(I)V"⟩) (As := [.int 3]) (rest := []) (c_X7_fail (by decide) G h al0 3 _ hw) yl_X7_fail (gm3 (List.mem_of_getElem? (i := 166) rfl) rfl) (gm3 (List.mem_of_getElem? (i := 157) rfl) rfl) (ci := 2) rfl (by decide) (gm3 (List.mem_of_getElem? (i := 167) rfl) rfl) (gm3 (List.mem_of_getElem? (i := 169) rfl) rfl) rfl hob (by decide) rfl (Nat.le_of_ble_eq_true rfl) dX2_readPole_51 rfl (kV fun hv10  hw => ?_)
      refine r_sub [0, 1, 2] rfl ?_
      exact tb_X2_readPole_54 C hr hK25 hw
def wl_X2_readPole_25  (post : AH → Prop) : Nat → AH → Nat → Int32 → Int32 → Prop
  | 0 => fun _ _ _ _ => False
  | n + 1 => fun h al0 xl1 xl2 => wb_X2_readPole_25  (wl_X2_readPole_25  post n) h al0 xl1 xl2 post
theorem tl_X2_readPole_25 {G : GG} {p : Program} {l : Launch} {e : Env} {R : Room} {s : State} {m : MethodId} {args : Array Value} {below : List Frame} {meth : Method} {c : Code} {n0 s0 : Nat} {post : AH → Prop} (C : Cx G p R s m args meth c 3 cX2_readPole RX2 n0 s0 4 88) (hr : meth.sig.returnType = none)   : ∀ (n : Nat) (h : AH) (al0 : Nat) (xl1 : Int32) (xl2 : Int32), wl_X2_readPole_25  post n h al0 xl1 xl2 → AW G p l e R s m args below meth c 3 (QM G (pV post) args s below n0 s0) 25 [(0, .ref (G.1 + al0)), (1, .int xl1), (2, .int xl2)] [] h := by
  intro n
  induction n with
  | zero => intro h al0 xl1 xl2 hw; exact hw.elim
  | succ n ih => intro h al0 xl1 xl2 hw; exact tb_X2_readPole_25 C hr  ih hw
def wp_X2_readPole (h : AH) (a0 : Nat) (post : AH → Prop) : Prop := (ob h a0 2) ∧ (∃ rv1, aP h a0 12 = some rv1 ∧ ((ob h rv1 1) ∧ (((aI h rv1 11) < 6 → ((ob h a0 2) ∧ wp_X2_readCell h a0  (fun hv2 iv3 => ∃ n, wl_X2_readPole_25  post n hv2 a0 iv3 0))) ∧ (¬ (aI h rv1 11) < 6 → ((ob h a0 2) ∧ wp_X7_fail 2 h a0 4 (fun hv4  => post hv4))))))
set_option maxRecDepth 100000 in
theorem c_X2_readPole (G : GG) (h : AH) (a0 : Nat) (post : AH → Prop) (hw : wp_X2_readPole h a0 post) : MC G yX2_readPole cX2_readPole 3 none 4 88 h [.ref (G.1 + a0)] (pV post) := by
  refine MC.of (lv := [(0, .ref (G.1 + a0))]) (by decide) (Nat.le_of_ble_eq_true rfl) rfl fun p l e R s m args below meth c C hr hnm => ?_
  unfold wp_X2_readPole at hw
  refine r_aload_n C dX2_readPole_0 0 rfl ?_
  have hob := hw.1
  obtain ⟨rv1, hp, hw⟩ := hw.2
  refine r_getP C fl_RX2_12_2 hob hp (fun _ _ _ => rfl) dX2_readPole_1 ?_
  refine r_getI C fl_RX2_149_1 hw.1 (fun _ _ _ => rfl) dX2_readPole_4 ?_
  replace hw := hw.2
  refine r_bipush (v := 6) C dX2_readPole_7 (by decide) ?_
  refine r_icmp_lt C dX2_readPole_9 18 (by decide) (fun hc => ?_) (fun hc => ?_)
  · replace hw := hw.1 hc
    refine r_aload_n C dX2_readPole_18 0 rfl ?_
    have hob := hw.1
    replace hw := hw.2
    refine r_callV C (As := []) (rest := []) (c_X2_readCell G h a0  _ hw) yl_X2_readCell (gm3 (List.mem_of_getElem? (i := 202) rfl) rfl) (gm3 (List.mem_of_getElem? (i := 204) rfl) rfl) (ci := 2) rfl (by decide) (gsel (List.mem_of_getElem? (i := 5) rfl)) hob (by decide) rfl (Nat.le_of_ble_eq_true rfl) dX2_readPole_19 rfl (kI fun hv2 iv3 hw => ?_)
    refine r_istore_n C dX2_readPole_22 [(1, .int iv3), (0, .ref (G.1 + a0))] (by decide) rfl ?_
    refine r_iconst (v := 0) C dX2_readPole_23 (by decide) ?_
    refine r_istore_n C dX2_readPole_24 [(2, .int 0), (1, .int iv3), (0, .ref (G.1 + a0))] (by decide) rfl ?_
    refine r_sub [2, 1, 0] rfl ?_
    obtain ⟨n, hw⟩ := hw
    exact tl_X2_readPole_25 C hr  n _ _ _ _ hw
  · replace hw := hw.2 hc
    refine r_aload_n C dX2_readPole_12 0 rfl ?_
    refine r_iconst (v := 4) C dX2_readPole_13 (by decide) ?_
    have hob := hw.1
    replace hw := hw.2
    refine r_callU C (x := ⟨RX2, "fail", "(I)V"⟩) (As := [.int 4]) (rest := []) (c_X7_fail (by decide) G h a0 4 _ hw) yl_X7_fail (gm3 (List.mem_of_getElem? (i := 166) rfl) rfl) (gm3 (List.mem_of_getElem? (i := 157) rfl) rfl) (ci := 2) rfl (by decide) (gm3 (List.mem_of_getElem? (i := 167) rfl) rfl) (gm3 (List.mem_of_getElem? (i := 169) rfl) rfl) rfl hob (by decide) rfl (Nat.le_of_ble_eq_true rfl) dX2_readPole_14 rfl (kV fun hv4  hw => ?_)
    exact r_vret C hr dX2_readPole_17 hw
theorem dX7_readRaft_0 : decode cX7_readRaft 0 = .ok (.aload_n 1, 1) := by decide +kernel
theorem dX7_readRaft_1 : decode cX7_readRaft 1 = .ok (.aload_n 0, 1) := by decide +kernel
theorem dX7_readRaft_2 : decode cX7_readRaft 2 = .ok (.invokevirtual 81, 3) := by decide +kernel
theorem dX7_readRaft_5 : decode cX7_readRaft 5 = .ok (.invokevirtual 84, 3) := by decide +kernel
theorem dX7_readRaft_8 : decode cX7_readRaft 8 = .ok (.istore_n 2, 1) := by decide +kernel
theorem dX7_readRaft_9 : decode cX7_readRaft 9 = .ok (.iload_n 2, 1) := by decide +kernel
theorem dX7_readRaft_10 : decode cX7_readRaft 10 = .ok (.ifCond .ge 8, 3) := by decide +kernel
theorem dX7_readRaft_13 : decode cX7_readRaft 13 = .ok (.aload_n 0, 1) := by decide +kernel
theorem dX7_readRaft_14 : decode cX7_readRaft 14 = .ok (.iconst 3, 1) := by decide +kernel
theorem dX7_readRaft_15 : decode cX7_readRaft 15 = .ok (.invokevirtual 77, 3) := by decide +kernel
theorem dX7_readRaft_18 : decode cX7_readRaft 18 = .ok (.aload_n 0, 1) := by decide +kernel
theorem dX7_readRaft_19 : decode cX7_readRaft 19 = .ok (.getfield 49, 3) := by decide +kernel
theorem dX7_readRaft_22 : decode cX7_readRaft 22 = .ok (.ifCond .ne 7, 3) := by decide +kernel
theorem dX7_readRaft_25 : decode cX7_readRaft 25 = .ok (.iload_n 2, 1) := by decide +kernel
theorem dX7_readRaft_26 : decode cX7_readRaft 26 = .ok (.goto 4, 3) := by decide +kernel
theorem dX7_readRaft_29 : decode cX7_readRaft 29 = .ok (.iconst 0, 1) := by decide +kernel
theorem dX7_readRaft_30 : decode cX7_readRaft 30 = .ok (.ireturn, 1) := by decide +kernel
def wb_X7_readRaft_18 (ci : Nat)  (h : AH) (al0 : Nat) (xl2 : Int32)  (post : AH → Int32 → Prop) : Prop := (ob h al0 ci) ∧ ((¬ (aI h al0 10) = 0 → (post h 0)) ∧ ((aI h al0 10) = 0 → (post h xl2)))
set_option maxRecDepth 100000 in
theorem tb_X7_readRaft_18 {ci : Nat} (hci : ci = 2 ∨ ci = 3) {G : GG} {p : Program} {l : Launch} {e : Env} {R : Room} {s : State} {m : MethodId} {args : Array Value} {below : List Frame} {meth : Method} {c : Code} {n0 s0 : Nat} {post : AH → Int32 → Prop} (C : Cx G p R s m args meth c 3 cX7_readRaft RX7 n0 s0 3 64) (hr : meth.sig.returnType = (some .int))   {h : AH} {al0 : Nat} {xl2 : Int32}  (hw : wb_X7_readRaft_18 ci  h al0 xl2 post) : AW G p l e R s m args below meth c 3 (QM G (pI post) args s below n0 s0) 18 [(0, .ref (G.1 + al0)), (2, .int xl2)] [] h := by
  unfold wb_X7_readRaft_18 at hw
  rcases hci with rfl | rfl
  · refine r_aload_n C dX7_readRaft_18 0 rfl ?_
    refine r_getI C fl_RX7_49_2 hw.1 (fun _ _ _ => rfl) dX7_readRaft_19 ?_
    replace hw := hw.2
    refine r_if_ne C dX7_readRaft_22 29 (by decide) (fun hc => ?_) (fun hc => ?_)
    · replace hw := hw.1 hc
      refine r_iconst (v := 0) C dX7_readRaft_29 (by decide) ?_
      exact r_iret C hr dX7_readRaft_30 hw
    · replace hw := hw.2 hc
      refine r_iload_n C dX7_readRaft_25 1 rfl ?_
      refine r_goto C dX7_readRaft_26 30 (by decide) ?_
      exact r_iret C hr dX7_readRaft_30 hw
  · refine r_aload_n C dX7_readRaft_18 0 rfl ?_
    refine r_getI C fl_RX7_49_3 hw.1 (fun _ _ _ => rfl) dX7_readRaft_19 ?_
    replace hw := hw.2
    refine r_if_ne C dX7_readRaft_22 29 (by decide) (fun hc => ?_) (fun hc => ?_)
    · replace hw := hw.1 hc
      refine r_iconst (v := 0) C dX7_readRaft_29 (by decide) ?_
      exact r_iret C hr dX7_readRaft_30 hw
    · replace hw := hw.2 hc
      refine r_iload_n C dX7_readRaft_25 1 rfl ?_
      refine r_goto C dX7_readRaft_26 30 (by decide) ?_
      exact r_iret C hr dX7_readRaft_30 hw
def wp_X7_readRaft (ci : Nat) (h : AH) (a0 : Nat) (a1 : Nat) (post : AH → Int32 → Prop) : Prop := (ob h a0 ci) ∧ wp_X7_readName ci h a0  (fun hv1 iv2 => (ob hv1 a1 1) ∧ wp_X1_raftNamed hv1 a1 iv2 (fun hv3 iv4 => (0 ≤ iv4 → (wb_X7_readRaft_18 ci  hv3 a0 iv4 post)) ∧ (¬ 0 ≤ iv4 → ((ob hv3 a0 ci) ∧ wp_X7_fail ci hv3 a0 3 (fun hv5  => wb_X7_readRaft_18 ci  hv5 a0 iv4 post)))))
set_option maxRecDepth 100000 in
theorem c_X7_readRaft {ci : Nat} (hci : ci = 2 ∨ ci = 3) (G : GG) (h : AH) (a0 : Nat) (a1 : Nat) (post : AH → Int32 → Prop) (hw : wp_X7_readRaft ci h a0 a1 post) : MC G yX7_readRaft cX7_readRaft 3 (some .int) 3 64 h [.ref (G.1 + a0), .ref (G.1 + a1)] (pI post) := by
  refine MC.of (lv := [(0, .ref (G.1 + a0)), (1, .ref (G.1 + a1))]) (by decide) (Nat.le_of_ble_eq_true rfl) rfl fun p l e R s m args below meth c C hr hnm => ?_
  unfold wp_X7_readRaft at hw
  rcases hci with rfl | rfl
  · refine r_aload_n C dX7_readRaft_0 1 rfl ?_
    refine r_aload_n C dX7_readRaft_1 0 rfl ?_
    have hob := hw.1
    replace hw := hw.2
    refine r_callV C (As := []) (rest := [.ref (G.1 + a1)]) (c_X7_readName (by decide) G h a0  _ hw) yl_X7_readName (gm4 (List.mem_of_getElem? (i := 3) rfl) rfl) (gm3 (List.mem_of_getElem? (i := 196) rfl) rfl) (ci := 2) rfl (by decide) (gm9 (List.mem_of_getElem? (i := 75) rfl) rfl) hob (by decide) rfl (Nat.le_of_ble_eq_true rfl) dX7_readRaft_2 rfl (kI fun hv1 iv2 hw => ?_)
    have hob := hw.1
    replace hw := hw.2
    refine r_callV C (As := [.int iv2]) (rest := []) (c_X1_raftNamed G hv1 a1 iv2 _ hw) yl_X1_raftNamed (gm4 (List.mem_of_getElem? (i := 4) rfl) rfl) (gm3 (List.mem_of_getElem? (i := 199) rfl) rfl) (ci := 1) rfl (by decide) (gm3 (List.mem_of_getElem? (i := 200) rfl) rfl) hob (by decide) rfl (Nat.le_of_ble_eq_true rfl) dX7_readRaft_5 rfl (kI fun hv3 iv4 hw => ?_)
    refine r_istore_n C dX7_readRaft_8 [(2, .int iv4), (0, .ref (G.1 + a0)), (1, .ref (G.1 + a1))] (by decide) rfl ?_
    refine r_iload_n C dX7_readRaft_9 0 rfl ?_
    refine r_if_ge C dX7_readRaft_10 18 (by decide) (fun hc => ?_) (fun hc => ?_)
    · replace hw := hw.1 hc
      refine r_sub [1, 0] rfl ?_
      exact tb_X7_readRaft_18 (by decide) C hr  hw
    · replace hw := hw.2 hc
      refine r_aload_n C dX7_readRaft_13 1 rfl ?_
      refine r_iconst (v := 3) C dX7_readRaft_14 (by decide) ?_
      have hob := hw.1
      replace hw := hw.2
      refine r_callV C (As := [.int 3]) (rest := []) (c_X7_fail (by decide) G hv3 a0 3 _ hw) yl_X7_fail (gm3 (List.mem_of_getElem? (i := 156) rfl) rfl) (gm3 (List.mem_of_getElem? (i := 157) rfl) rfl) (ci := 2) rfl (by decide) (gm3 (List.mem_of_getElem? (i := 159) rfl) rfl) hob (by decide) rfl (Nat.le_of_ble_eq_true rfl) dX7_readRaft_15 rfl (kV fun hv5  hw => ?_)
      refine r_sub [1, 0] rfl ?_
      exact tb_X7_readRaft_18 (by decide) C hr  hw
  · refine r_aload_n C dX7_readRaft_0 1 rfl ?_
    refine r_aload_n C dX7_readRaft_1 0 rfl ?_
    have hob := hw.1
    replace hw := hw.2
    refine r_callV C (As := []) (rest := [.ref (G.1 + a1)]) (c_X7_readName (by decide) G h a0  _ hw) yl_X7_readName (gm4 (List.mem_of_getElem? (i := 3) rfl) rfl) (gm3 (List.mem_of_getElem? (i := 196) rfl) rfl) (ci := 3) rfl (by decide) (gm9 (List.mem_of_getElem? (i := 76) rfl) rfl) hob (by decide) rfl (Nat.le_of_ble_eq_true rfl) dX7_readRaft_2 rfl (kI fun hv1 iv2 hw => ?_)
    have hob := hw.1
    replace hw := hw.2
    refine r_callV C (As := [.int iv2]) (rest := []) (c_X1_raftNamed G hv1 a1 iv2 _ hw) yl_X1_raftNamed (gm4 (List.mem_of_getElem? (i := 4) rfl) rfl) (gm3 (List.mem_of_getElem? (i := 199) rfl) rfl) (ci := 1) rfl (by decide) (gm3 (List.mem_of_getElem? (i := 200) rfl) rfl) hob (by decide) rfl (Nat.le_of_ble_eq_true rfl) dX7_readRaft_5 rfl (kI fun hv3 iv4 hw => ?_)
    refine r_istore_n C dX7_readRaft_8 [(2, .int iv4), (0, .ref (G.1 + a0)), (1, .ref (G.1 + a1))] (by decide) rfl ?_
    refine r_iload_n C dX7_readRaft_9 0 rfl ?_
    refine r_if_ge C dX7_readRaft_10 18 (by decide) (fun hc => ?_) (fun hc => ?_)
    · replace hw := hw.1 hc
      refine r_sub [1, 0] rfl ?_
      exact tb_X7_readRaft_18 (by decide) C hr  hw
    · replace hw := hw.2 hc
      refine r_aload_n C dX7_readRaft_13 1 rfl ?_
      refine r_iconst (v := 3) C dX7_readRaft_14 (by decide) ?_
      have hob := hw.1
      replace hw := hw.2
      refine r_callV C (As := [.int 3]) (rest := []) (c_X7_fail (by decide) G hv3 a0 3 _ hw) yl_X7_fail (gm3 (List.mem_of_getElem? (i := 156) rfl) rfl) (gm3 (List.mem_of_getElem? (i := 157) rfl) rfl) (ci := 3) rfl (by decide) (gm3 (List.mem_of_getElem? (i := 160) rfl) rfl) hob (by decide) rfl (Nat.le_of_ble_eq_true rfl) dX7_readRaft_15 rfl (kV fun hv5  hw => ?_)
      refine r_sub [1, 0] rfl ?_
      exact tb_X7_readRaft_18 (by decide) C hr  hw
theorem dX4_add_0 : decode cX4_add 0 = .ok (.aload_n 0, 1) := by decide +kernel
theorem dX4_add_1 : decode cX4_add 1 = .ok (.getfield 27, 3) := by decide +kernel
theorem dX4_add_4 : decode cX4_add 4 = .ok (.bipush 8, 2) := by decide +kernel
theorem dX4_add_6 : decode cX4_add 6 = .ok (.if_icmp .ge 54, 3) := by decide +kernel
theorem dX4_add_9 : decode cX4_add 9 = .ok (.aload_n 0, 1) := by decide +kernel
theorem dX4_add_10 : decode cX4_add 10 = .ok (.getfield 9, 3) := by decide +kernel
theorem dX4_add_13 : decode cX4_add 13 = .ok (.aload_n 0, 1) := by decide +kernel
theorem dX4_add_14 : decode cX4_add 14 = .ok (.getfield 27, 3) := by decide +kernel
theorem dX4_add_17 : decode cX4_add 17 = .ok (.iload_n 1, 1) := by decide +kernel
theorem dX4_add_18 : decode cX4_add 18 = .ok (.iastore, 1) := by decide +kernel
theorem dX4_add_19 : decode cX4_add 19 = .ok (.aload_n 0, 1) := by decide +kernel
theorem dX4_add_20 : decode cX4_add 20 = .ok (.getfield 15, 3) := by decide +kernel
theorem dX4_add_23 : decode cX4_add 23 = .ok (.aload_n 0, 1) := by decide +kernel
theorem dX4_add_24 : decode cX4_add 24 = .ok (.getfield 27, 3) := by decide +kernel
theorem dX4_add_27 : decode cX4_add 27 = .ok (.iload_n 2, 1) := by decide +kernel
theorem dX4_add_28 : decode cX4_add 28 = .ok (.iastore, 1) := by decide +kernel
theorem dX4_add_29 : decode cX4_add 29 = .ok (.aload_n 0, 1) := by decide +kernel
theorem dX4_add_30 : decode cX4_add 30 = .ok (.getfield 18, 3) := by decide +kernel
theorem dX4_add_33 : decode cX4_add 33 = .ok (.aload_n 0, 1) := by decide +kernel
theorem dX4_add_34 : decode cX4_add 34 = .ok (.getfield 27, 3) := by decide +kernel
theorem dX4_add_37 : decode cX4_add 37 = .ok (.iload_n 3, 1) := by decide +kernel
theorem dX4_add_38 : decode cX4_add 38 = .ok (.iastore, 1) := by decide +kernel
theorem dX4_add_39 : decode cX4_add 39 = .ok (.aload_n 0, 1) := by decide +kernel
theorem dX4_add_40 : decode cX4_add 40 = .ok (.getfield 21, 3) := by decide +kernel
theorem dX4_add_43 : decode cX4_add 43 = .ok (.aload_n 0, 1) := by decide +kernel
theorem dX4_add_44 : decode cX4_add 44 = .ok (.getfield 27, 3) := by decide +kernel
theorem dX4_add_47 : decode cX4_add 47 = .ok (.iload 4, 2) := by decide +kernel
theorem dX4_add_49 : decode cX4_add 49 = .ok (.iastore, 1) := by decide +kernel
theorem dX4_add_50 : decode cX4_add 50 = .ok (.aload_n 0, 1) := by decide +kernel
theorem dX4_add_51 : decode cX4_add 51 = .ok (.dup, 1) := by decide +kernel
theorem dX4_add_52 : decode cX4_add 52 = .ok (.getfield 27, 3) := by decide +kernel
theorem dX4_add_55 : decode cX4_add 55 = .ok (.iconst 1, 1) := by decide +kernel
theorem dX4_add_56 : decode cX4_add 56 = .ok (.iadd, 1) := by decide +kernel
theorem dX4_add_57 : decode cX4_add 57 = .ok (.putfield 27, 3) := by decide +kernel
theorem dX4_add_60 : decode cX4_add 60 = .ok (.return_, 1) := by decide +kernel
def wp_X4_add (h : AH) (a0 : Nat) (x1 : Int32) (x2 : Int32) (x3 : Int32) (x4 : Int32) (post : AH → Prop) : Prop := (ob h a0 4) ∧ ((8 ≤ (aI h a0 0) → (post h)) ∧ (¬ 8 ≤ (aI h a0 0) → ((ob h a0 4) ∧ (∃ rv1, aP h a0 1 = some rv1 ∧ ((ob h a0 4) ∧ ((ob h rv1 13) ∧ ((vp_in (aI h a0 0) (aL h rv1)) ∧ (∀ hv2 : AH, hv2 = hI h rv1 (aI h a0 0).toNatClampNeg x1 → ((ob hv2 a0 4) ∧ (∃ rv3, aP hv2 a0 2 = some rv3 ∧ ((ob hv2 a0 4) ∧ ((ob hv2 rv3 13) ∧ ((vp_in (aI hv2 a0 0) (aL hv2 rv3)) ∧ (∀ hv4 : AH, hv4 = hI hv2 rv3 (aI hv2 a0 0).toNatClampNeg x2 → ((ob hv4 a0 4) ∧ (∃ rv5, aP hv4 a0 3 = some rv5 ∧ ((ob hv4 a0 4) ∧ ((ob hv4 rv5 13) ∧ ((vp_in (aI hv4 a0 0) (aL hv4 rv5)) ∧ (∀ hv6 : AH, hv6 = hI hv4 rv5 (aI hv4 a0 0).toNatClampNeg x3 → ((ob hv6 a0 4) ∧ (∃ rv7, aP hv6 a0 4 = some rv7 ∧ ((ob hv6 a0 4) ∧ ((ob hv6 rv7 13) ∧ ((vp_in (aI hv6 a0 0) (aL hv6 rv7)) ∧ (∀ hv8 : AH, hv8 = hI hv6 rv7 (aI hv6 a0 0).toNatClampNeg x4 → ((ob hv8 a0 4) ∧ ((ob hv8 a0 4) ∧ (∀ hv9 : AH, hv9 = hI hv8 a0 0 ((aI hv8 a0 0) + (1 : Int32)) → (post hv9))))))))))))))))))))))))))))))
set_option maxRecDepth 100000 in
theorem c_X4_add (G : GG) (h : AH) (a0 : Nat) (x1 : Int32) (x2 : Int32) (x3 : Int32) (x4 : Int32) (post : AH → Prop) (hw : wp_X4_add h a0 x1 x2 x3 x4 post) : MC G yX4_add cX4_add 5 none 0 0 h [.ref (G.1 + a0), .int x1, .int x2, .int x3, .int x4] (pV post) := by
  refine MC.of (lv := [(0, .ref (G.1 + a0)), (1, .int x1), (2, .int x2), (3, .int x3), (4, .int x4)]) (by decide) (Nat.le_of_ble_eq_true rfl) rfl fun p l e R s m args below meth c C hr hnm => ?_
  unfold wp_X4_add at hw
  refine r_aload_n C dX4_add_0 0 rfl ?_
  refine r_getI C fl_RX4_27_4 hw.1 (fun _ _ _ => rfl) dX4_add_1 ?_
  replace hw := hw.2
  refine r_bipush (v := 8) C dX4_add_4 (by decide) ?_
  refine r_icmp_ge C dX4_add_6 60 (by decide) (fun hc => ?_) (fun hc => ?_)
  · replace hw := hw.1 hc
    exact r_vret C hr dX4_add_60 hw
  · replace hw := hw.2 hc
    refine r_aload_n C dX4_add_9 0 rfl ?_
    have hob := hw.1
    obtain ⟨rv1, hp, hw⟩ := hw.2
    refine r_getP C fl_RX4_9_4 hob hp (fun _ _ _ => rfl) dX4_add_10 ?_
    refine r_aload_n C dX4_add_13 0 rfl ?_
    refine r_getI C fl_RX4_27_4 hw.1 (fun _ _ _ => rfl) dX4_add_14 ?_
    replace hw := hw.2
    refine r_iload_n C dX4_add_17 1 rfl ?_
    refine r_iastore C hw.1 hw.2.1 dX4_add_18 ?_
    replace hw := hw.2.2
    refine r_toph fun hv2 ehv2 => ?_
    replace hw := hw hv2 ehv2
    refine r_aload_n C dX4_add_19 0 rfl ?_
    have hob := hw.1
    obtain ⟨rv3, hp, hw⟩ := hw.2
    refine r_getP C fl_RX4_15_4 hob hp (fun _ _ _ => rfl) dX4_add_20 ?_
    refine r_aload_n C dX4_add_23 0 rfl ?_
    refine r_getI C fl_RX4_27_4 hw.1 (fun _ _ _ => rfl) dX4_add_24 ?_
    replace hw := hw.2
    refine r_iload_n C dX4_add_27 2 rfl ?_
    refine r_iastore C hw.1 hw.2.1 dX4_add_28 ?_
    replace hw := hw.2.2
    refine r_toph fun hv4 ehv4 => ?_
    replace hw := hw hv4 ehv4
    refine r_aload_n C dX4_add_29 0 rfl ?_
    have hob := hw.1
    obtain ⟨rv5, hp, hw⟩ := hw.2
    refine r_getP C fl_RX4_18_4 hob hp (fun _ _ _ => rfl) dX4_add_30 ?_
    refine r_aload_n C dX4_add_33 0 rfl ?_
    refine r_getI C fl_RX4_27_4 hw.1 (fun _ _ _ => rfl) dX4_add_34 ?_
    replace hw := hw.2
    refine r_iload_n C dX4_add_37 3 rfl ?_
    refine r_iastore C hw.1 hw.2.1 dX4_add_38 ?_
    replace hw := hw.2.2
    refine r_toph fun hv6 ehv6 => ?_
    replace hw := hw hv6 ehv6
    refine r_aload_n C dX4_add_39 0 rfl ?_
    have hob := hw.1
    obtain ⟨rv7, hp, hw⟩ := hw.2
    refine r_getP C fl_RX4_21_4 hob hp (fun _ _ _ => rfl) dX4_add_40 ?_
    refine r_aload_n C dX4_add_43 0 rfl ?_
    refine r_getI C fl_RX4_27_4 hw.1 (fun _ _ _ => rfl) dX4_add_44 ?_
    replace hw := hw.2
    refine r_iload C dX4_add_47 4 rfl ?_
    refine r_iastore C hw.1 hw.2.1 dX4_add_49 ?_
    replace hw := hw.2.2
    refine r_toph fun hv8 ehv8 => ?_
    replace hw := hw hv8 ehv8
    refine r_aload_n C dX4_add_50 0 rfl ?_
    refine r_dup C dX4_add_51 rfl ?_
    refine r_getI C fl_RX4_27_4 hw.1 (fun _ _ _ => rfl) dX4_add_52 ?_
    replace hw := hw.2
    refine r_iconst (v := 1) C dX4_add_55 (by decide) ?_
    refine r_iadd C dX4_add_56 ?_
    refine r_putI C fp_RX4_27_4 hw.1 rfl dX4_add_57 ?_
    replace hw := hw.2
    refine r_toph fun hv9 ehv9 => ?_
    replace hw := hw hv9 ehv9
    exact r_vret C hr dX4_add_60 hw
theorem dX2_readRope_0 : decode cX2_readRope 0 = .ok (.aload_n 0, 1) := by decide +kernel
theorem dX2_readRope_1 : decode cX2_readRope 1 = .ok (.getfield 12, 3) := by decide +kernel
theorem dX2_readRope_4 : decode cX2_readRope 4 = .ok (.getfield 155, 3) := by decide +kernel
theorem dX2_readRope_7 : decode cX2_readRope 7 = .ok (.getfield 159, 3) := by decide +kernel
theorem dX2_readRope_10 : decode cX2_readRope 10 = .ok (.bipush 8, 2) := by decide +kernel
theorem dX2_readRope_12 : decode cX2_readRope 12 = .ok (.if_icmp .lt 8, 3) := by decide +kernel
theorem dX2_readRope_15 : decode cX2_readRope 15 = .ok (.aload_n 0, 1) := by decide +kernel
theorem dX2_readRope_16 : decode cX2_readRope 16 = .ok (.iconst 4, 1) := by decide +kernel
theorem dX2_readRope_17 : decode cX2_readRope 17 = .ok (.invokevirtual 69, 3) := by decide +kernel
theorem dX2_readRope_20 : decode cX2_readRope 20 = .ok (.aload_n 0, 1) := by decide +kernel
theorem dX2_readRope_21 : decode cX2_readRope 21 = .ok (.aload_n 0, 1) := by decide +kernel
theorem dX2_readRope_22 : decode cX2_readRope 22 = .ok (.getfield 12, 3) := by decide +kernel
theorem dX2_readRope_25 : decode cX2_readRope 25 = .ok (.invokevirtual 164, 3) := by decide +kernel
theorem dX2_readRope_28 : decode cX2_readRope 28 = .ok (.istore_n 1, 1) := by decide +kernel
theorem dX2_readRope_29 : decode cX2_readRope 29 = .ok (.aload_n 0, 1) := by decide +kernel
theorem dX2_readRope_30 : decode cX2_readRope 30 = .ok (.aload_n 0, 1) := by decide +kernel
theorem dX2_readRope_31 : decode cX2_readRope 31 = .ok (.getfield 12, 3) := by decide +kernel
theorem dX2_readRope_34 : decode cX2_readRope 34 = .ok (.invokevirtual 164, 3) := by decide +kernel
theorem dX2_readRope_37 : decode cX2_readRope 37 = .ok (.istore_n 2, 1) := by decide +kernel
theorem dX2_readRope_38 : decode cX2_readRope 38 = .ok (.iload_n 1, 1) := by decide +kernel
theorem dX2_readRope_39 : decode cX2_readRope 39 = .ok (.iload_n 2, 1) := by decide +kernel
theorem dX2_readRope_40 : decode cX2_readRope 40 = .ok (.if_icmp .eq 20, 3) := by decide +kernel
theorem dX2_readRope_43 : decode cX2_readRope 43 = .ok (.aload_n 0, 1) := by decide +kernel
theorem dX2_readRope_44 : decode cX2_readRope 44 = .ok (.getfield 12, 3) := by decide +kernel
theorem dX2_readRope_47 : decode cX2_readRope 47 = .ok (.getfield 155, 3) := by decide +kernel
theorem dX2_readRope_50 : decode cX2_readRope 50 = .ok (.iload_n 1, 1) := by decide +kernel
theorem dX2_readRope_51 : decode cX2_readRope 51 = .ok (.iload_n 2, 1) := by decide +kernel
theorem dX2_readRope_52 : decode cX2_readRope 52 = .ok (.invokevirtual 168, 3) := by decide +kernel
theorem dX2_readRope_55 : decode cX2_readRope 55 = .ok (.bipush 99, 2) := by decide +kernel
theorem dX2_readRope_57 : decode cX2_readRope 57 = .ok (.if_icmp .eq 8, 3) := by decide +kernel
theorem dX2_readRope_60 : decode cX2_readRope 60 = .ok (.aload_n 0, 1) := by decide +kernel
theorem dX2_readRope_61 : decode cX2_readRope 61 = .ok (.iconst 3, 1) := by decide +kernel
theorem dX2_readRope_62 : decode cX2_readRope 62 = .ok (.invokevirtual 69, 3) := by decide +kernel
theorem dX2_readRope_65 : decode cX2_readRope 65 = .ok (.aload_n 0, 1) := by decide +kernel
theorem dX2_readRope_66 : decode cX2_readRope 66 = .ok (.iconst 0, 1) := by decide +kernel
theorem dX2_readRope_67 : decode cX2_readRope 67 = .ok (.bipush 9, 2) := by decide +kernel
theorem dX2_readRope_69 : decode cX2_readRope 69 = .ok (.invokevirtual 100, 3) := by decide +kernel
theorem dX2_readRope_72 : decode cX2_readRope 72 = .ok (.istore_n 3, 1) := by decide +kernel
theorem dX2_readRope_73 : decode cX2_readRope 73 = .ok (.iload_n 3, 1) := by decide +kernel
theorem dX2_readRope_74 : decode cX2_readRope 74 = .ok (.aload_n 0, 1) := by decide +kernel
theorem dX2_readRope_75 : decode cX2_readRope 75 = .ok (.getfield 12, 3) := by decide +kernel
theorem dX2_readRope_78 : decode cX2_readRope 78 = .ok (.iload_n 1, 1) := by decide +kernel
theorem dX2_readRope_79 : decode cX2_readRope 79 = .ok (.aload_n 0, 1) := by decide +kernel
theorem dX2_readRope_80 : decode cX2_readRope 80 = .ok (.getfield 12, 3) := by decide +kernel
theorem dX2_readRope_83 : decode cX2_readRope 83 = .ok (.getfield 131, 3) := by decide +kernel
theorem dX2_readRope_86 : decode cX2_readRope 86 = .ok (.iload_n 1, 1) := by decide +kernel
theorem dX2_readRope_87 : decode cX2_readRope 87 = .ok (.iaload, 1) := by decide +kernel
theorem dX2_readRope_88 : decode cX2_readRope 88 = .ok (.iload_n 2, 1) := by decide +kernel
theorem dX2_readRope_89 : decode cX2_readRope 89 = .ok (.aload_n 0, 1) := by decide +kernel
theorem dX2_readRope_90 : decode cX2_readRope 90 = .ok (.getfield 12, 3) := by decide +kernel
theorem dX2_readRope_93 : decode cX2_readRope 93 = .ok (.getfield 131, 3) := by decide +kernel
theorem dX2_readRope_96 : decode cX2_readRope 96 = .ok (.iload_n 2, 1) := by decide +kernel
theorem dX2_readRope_97 : decode cX2_readRope 97 = .ok (.iaload, 1) := by decide +kernel
theorem dX2_readRope_98 : decode cX2_readRope 98 = .ok (.invokevirtual 171, 3) := by decide +kernel
theorem dX2_readRope_101 : decode cX2_readRope 101 = .ok (.if_icmp .ge 8, 3) := by decide +kernel
theorem dX2_readRope_104 : decode cX2_readRope 104 = .ok (.aload_n 0, 1) := by decide +kernel
theorem dX2_readRope_105 : decode cX2_readRope 105 = .ok (.iconst 2, 1) := by decide +kernel
theorem dX2_readRope_106 : decode cX2_readRope 106 = .ok (.invokevirtual 69, 3) := by decide +kernel
theorem dX2_readRope_109 : decode cX2_readRope 109 = .ok (.aload_n 0, 1) := by decide +kernel
theorem dX2_readRope_110 : decode cX2_readRope 110 = .ok (.iconst 1, 1) := by decide +kernel
theorem dX2_readRope_111 : decode cX2_readRope 111 = .ok (.bipush 99, 2) := by decide +kernel
theorem dX2_readRope_113 : decode cX2_readRope 113 = .ok (.invokevirtual 100, 3) := by decide +kernel
theorem dX2_readRope_116 : decode cX2_readRope 116 = .ok (.istore 4, 2) := by decide +kernel
theorem dX2_readRope_118 : decode cX2_readRope 118 = .ok (.aload_n 0, 1) := by decide +kernel
theorem dX2_readRope_119 : decode cX2_readRope 119 = .ok (.getfield 90, 3) := by decide +kernel
theorem dX2_readRope_122 : decode cX2_readRope 122 = .ok (.ifCond .ne 18, 3) := by decide +kernel
theorem dX2_readRope_125 : decode cX2_readRope 125 = .ok (.aload_n 0, 1) := by decide +kernel
theorem dX2_readRope_126 : decode cX2_readRope 126 = .ok (.getfield 12, 3) := by decide +kernel
theorem dX2_readRope_129 : decode cX2_readRope 129 = .ok (.getfield 155, 3) := by decide +kernel
theorem dX2_readRope_132 : decode cX2_readRope 132 = .ok (.iload_n 1, 1) := by decide +kernel
theorem dX2_readRope_133 : decode cX2_readRope 133 = .ok (.iload_n 2, 1) := by decide +kernel
theorem dX2_readRope_134 : decode cX2_readRope 134 = .ok (.iload_n 3, 1) := by decide +kernel
theorem dX2_readRope_135 : decode cX2_readRope 135 = .ok (.iload 4, 2) := by decide +kernel
theorem dX2_readRope_137 : decode cX2_readRope 137 = .ok (.invokevirtual 175, 3) := by decide +kernel
theorem dX2_readRope_140 : decode cX2_readRope 140 = .ok (.return_, 1) := by decide +kernel
def wb_X2_readRope_109  (h : AH) (al0 : Nat) (xl1 : Int32) (xl2 : Int32) (xl3 : Int32)  (post : AH → Prop) : Prop := (ob h al0 2) ∧ wp_X7_readNumber 2 h al0 1 99 (fun hv1 iv2 => (ob hv1 al0 2) ∧ ((¬ (aI hv1 al0 10) = 0 → (post hv1)) ∧ ((aI hv1 al0 10) = 0 → ((ob hv1 al0 2) ∧ (∃ rv3, aP hv1 al0 12 = some rv3 ∧ ((ob hv1 rv3 1) ∧ (∃ rv4, aP hv1 rv3 14 = some rv4 ∧ ((ob hv1 rv4 4) ∧ wp_X4_add hv1 rv4 xl1 xl2 xl3 iv2 (fun hv5  => post hv5)))))))))
set_option maxRecDepth 100000 in
theorem tb_X2_readRope_109 {G : GG} {p : Program} {l : Launch} {e : Env} {R : Room} {s : State} {m : MethodId} {args : Array Value} {below : List Frame} {meth : Method} {c : Code} {n0 s0 : Nat} {post : AH → Prop} (C : Cx G p R s m args meth c 5 cX2_readRope RX2 n0 s0 4 86) (hr : meth.sig.returnType = none)   {h : AH} {al0 : Nat} {xl1 : Int32} {xl2 : Int32} {xl3 : Int32}  (hw : wb_X2_readRope_109  h al0 xl1 xl2 xl3 post) : AW G p l e R s m args below meth c 5 (QM G (pV post) args s below n0 s0) 109 [(0, .ref (G.1 + al0)), (1, .int xl1), (2, .int xl2), (3, .int xl3)] [] h := by
  unfold wb_X2_readRope_109 at hw
  refine r_aload_n C dX2_readRope_109 0 rfl ?_
  refine r_iconst (v := 1) C dX2_readRope_110 (by decide) ?_
  refine r_bipush (v := 99) C dX2_readRope_111 (by decide) ?_
  have hob := hw.1
  replace hw := hw.2
  refine r_callU C (x := ⟨RX2, "readNumber", "(II)I"⟩) (As := [.int 1, .int 99]) (rest := []) (c_X7_readNumber (by decide) G h al0 1 99 _ hw) yl_X7_readNumber (gm3 (List.mem_of_getElem? (i := 182) rfl) rfl) (gm3 (List.mem_of_getElem? (i := 186) rfl) rfl) (ci := 2) rfl (by decide) (gm3 (List.mem_of_getElem? (i := 183) rfl) rfl) (gm3 (List.mem_of_getElem? (i := 185) rfl) rfl) rfl hob (by decide) rfl (Nat.le_of_ble_eq_true rfl) dX2_readRope_113 rfl (kI fun hv1 iv2 hw => ?_)
  refine r_istore C dX2_readRope_116 [(4, .int iv2), (0, .ref (G.1 + al0)), (1, .int xl1), (2, .int xl2), (3, .int xl3)] (by decide) rfl ?_
  refine r_aload_n C dX2_readRope_118 1 rfl ?_
  refine r_getI C fl_RX2_90_2 hw.1 (fun _ _ _ => rfl) dX2_readRope_119 ?_
  replace hw := hw.2
  refine r_if_ne C dX2_readRope_122 140 (by decide) (fun hc => ?_) (fun hc => ?_)
  · replace hw := hw.1 hc
    exact r_vret C hr dX2_readRope_140 hw
  · replace hw := hw.2 hc
    refine r_aload_n C dX2_readRope_125 1 rfl ?_
    have hob := hw.1
    obtain ⟨rv3, hp, hw⟩ := hw.2
    refine r_getP C fl_RX2_12_2 hob hp (fun _ _ _ => rfl) dX2_readRope_126 ?_
    have hob := hw.1
    obtain ⟨rv4, hp, hw⟩ := hw.2
    refine r_getP C fl_RX2_155_1 hob hp (fun _ _ _ => rfl) dX2_readRope_129 ?_
    refine r_iload_n C dX2_readRope_132 2 rfl ?_
    refine r_iload_n C dX2_readRope_133 3 rfl ?_
    refine r_iload_n C dX2_readRope_134 4 rfl ?_
    refine r_iload C dX2_readRope_135 0 rfl ?_
    have hob := hw.1
    replace hw := hw.2
    refine r_callV C (As := [.int xl1, .int xl2, .int xl3, .int iv2]) (rest := []) (c_X4_add G hv1 rv4 xl1 xl2 xl3 iv2 _ hw) yl_X4_add (gm4 (List.mem_of_getElem? (i := 16) rfl) rfl) (gm4 (List.mem_of_getElem? (i := 17) rfl) rfl) (ci := 4) rfl (by decide) (gm4 (List.mem_of_getElem? (i := 18) rfl) rfl) hob (by decide) rfl (Nat.le_of_ble_eq_true rfl) dX2_readRope_137 rfl (kV fun hv5  hw => ?_)
    exact r_vret C hr dX2_readRope_140 hw
def wb_X2_readRope_65  (h : AH) (al0 : Nat) (xl1 : Int32) (xl2 : Int32)  (post : AH → Prop) : Prop := (ob h al0 2) ∧ wp_X7_readNumber 2 h al0 0 9 (fun hv1 iv2 => (ob hv1 al0 2) ∧ (∃ rv3, aP hv1 al0 12 = some rv3 ∧ ((ob hv1 al0 2) ∧ (∃ rv4, aP hv1 al0 12 = some rv4 ∧ ((ob hv1 rv4 1) ∧ (∃ rv5, aP hv1 rv4 10 = some rv5 ∧ ((ob hv1 rv5 13) ∧ ((vp_in xl1 (aL hv1 rv5)) ∧ ((ob hv1 al0 2) ∧ (∃ rv6, aP hv1 al0 12 = some rv6 ∧ ((ob hv1 rv6 1) ∧ (∃ rv7, aP hv1 rv6 10 = some rv7 ∧ ((ob hv1 rv7 13) ∧ ((vp_in xl2 (aL hv1 rv7)) ∧ ((ob hv1 rv3 1) ∧ wp_X1_between hv1 rv3 xl1 (aI hv1 rv5 xl1.toNatClampNeg) xl2 (aI hv1 rv7 xl2.toNatClampNeg) (fun hv8 iv9 => (iv9 ≤ iv2 → (wb_X2_readRope_109  hv8 al0 xl1 xl2 iv2 post)) ∧ (¬ iv9 ≤ iv2 → ((ob hv8 al0 2) ∧ wp_X7_fail 2 hv8 al0 2 (fun hv10  => wb_X2_readRope_109  hv10 al0 xl1 xl2 iv2 post)))))))))))))))))))
set_option maxRecDepth 100000 in
theorem tb_X2_readRope_65 {G : GG} {p : Program} {l : Launch} {e : Env} {R : Room} {s : State} {m : MethodId} {args : Array Value} {below : List Frame} {meth : Method} {c : Code} {n0 s0 : Nat} {post : AH → Prop} (C : Cx G p R s m args meth c 5 cX2_readRope RX2 n0 s0 4 86) (hr : meth.sig.returnType = none)   {h : AH} {al0 : Nat} {xl1 : Int32} {xl2 : Int32}  (hw : wb_X2_readRope_65  h al0 xl1 xl2 post) : AW G p l e R s m args below meth c 5 (QM G (pV post) args s below n0 s0) 65 [(0, .ref (G.1 + al0)), (1, .int xl1), (2, .int xl2)] [] h := by
  unfold wb_X2_readRope_65 at hw
  refine r_aload_n C dX2_readRope_65 0 rfl ?_
  refine r_iconst (v := 0) C dX2_readRope_66 (by decide) ?_
  refine r_bipush (v := 9) C dX2_readRope_67 (by decide) ?_
  have hob := hw.1
  replace hw := hw.2
  refine r_callU C (x := ⟨RX2, "readNumber", "(II)I"⟩) (As := [.int 0, .int 9]) (rest := []) (c_X7_readNumber (by decide) G h al0 0 9 _ hw) yl_X7_readNumber (gm3 (List.mem_of_getElem? (i := 182) rfl) rfl) (gm3 (List.mem_of_getElem? (i := 186) rfl) rfl) (ci := 2) rfl (by decide) (gm3 (List.mem_of_getElem? (i := 183) rfl) rfl) (gm3 (List.mem_of_getElem? (i := 185) rfl) rfl) rfl hob (by decide) rfl (Nat.le_of_ble_eq_true rfl) dX2_readRope_69 rfl (kI fun hv1 iv2 hw => ?_)
  refine r_istore_n C dX2_readRope_72 [(3, .int iv2), (0, .ref (G.1 + al0)), (1, .int xl1), (2, .int xl2)] (by decide) rfl ?_
  refine r_iload_n C dX2_readRope_73 0 rfl ?_
  refine r_aload_n C dX2_readRope_74 1 rfl ?_
  have hob := hw.1
  obtain ⟨rv3, hp, hw⟩ := hw.2
  refine r_getP C fl_RX2_12_2 hob hp (fun _ _ _ => rfl) dX2_readRope_75 ?_
  refine r_iload_n C dX2_readRope_78 2 rfl ?_
  refine r_aload_n C dX2_readRope_79 1 rfl ?_
  have hob := hw.1
  obtain ⟨rv4, hp, hw⟩ := hw.2
  refine r_getP C fl_RX2_12_2 hob hp (fun _ _ _ => rfl) dX2_readRope_80 ?_
  have hob := hw.1
  obtain ⟨rv5, hp, hw⟩ := hw.2
  refine r_getP C fl_RX2_131_1 hob hp (fun _ _ _ => rfl) dX2_readRope_83 ?_
  refine r_iload_n C dX2_readRope_86 2 rfl ?_
  refine r_iaload C hw.1 hw.2.1 dX2_readRope_87 ?_
  replace hw := hw.2.2
  refine r_iload_n C dX2_readRope_88 3 rfl ?_
  refine r_aload_n C dX2_readRope_89 1 rfl ?_
  have hob := hw.1
  obtain ⟨rv6, hp, hw⟩ := hw.2
  refine r_getP C fl_RX2_12_2 hob hp (fun _ _ _ => rfl) dX2_readRope_90 ?_
  have hob := hw.1
  obtain ⟨rv7, hp, hw⟩ := hw.2
  refine r_getP C fl_RX2_131_1 hob hp (fun _ _ _ => rfl) dX2_readRope_93 ?_
  refine r_iload_n C dX2_readRope_96 3 rfl ?_
  refine r_iaload C hw.1 hw.2.1 dX2_readRope_97 ?_
  replace hw := hw.2.2
  have hob := hw.1
  replace hw := hw.2
  refine r_callV C (As := [.int xl1, .int (aI hv1 rv5 xl1.toNatClampNeg), .int xl2, .int (aI hv1 rv7 xl2.toNatClampNeg)]) (rest := [.int iv2]) (c_X1_between G hv1 rv3 xl1 (aI hv1 rv5 xl1.toNatClampNeg) xl2 (aI hv1 rv7 xl2.toNatClampNeg) _ hw) yl_X1_between (gm4 (List.mem_of_getElem? (i := 9) rfl) rfl) (gm4 (List.mem_of_getElem? (i := 10) rfl) rfl) (ci := 1) rfl (by decide) (gm4 (List.mem_of_getElem? (i := 11) rfl) rfl) hob (by decide) rfl (Nat.le_of_ble_eq_true rfl) dX2_readRope_98 rfl (kI fun hv8 iv9 hw => ?_)
  refine r_icmp_ge C dX2_readRope_101 109 (by decide) (fun hc => ?_) (fun hc => ?_)
  · replace hw := hw.1 hc
    refine r_sub [1, 2, 3, 0] rfl ?_
    exact tb_X2_readRope_109 C hr  hw
  · replace hw := hw.2 hc
    refine r_aload_n C dX2_readRope_104 1 rfl ?_
    refine r_iconst (v := 2) C dX2_readRope_105 (by decide) ?_
    have hob := hw.1
    replace hw := hw.2
    refine r_callU C (x := ⟨RX2, "fail", "(I)V"⟩) (As := [.int 2]) (rest := []) (c_X7_fail (by decide) G hv8 al0 2 _ hw) yl_X7_fail (gm3 (List.mem_of_getElem? (i := 166) rfl) rfl) (gm3 (List.mem_of_getElem? (i := 157) rfl) rfl) (ci := 2) rfl (by decide) (gm3 (List.mem_of_getElem? (i := 167) rfl) rfl) (gm3 (List.mem_of_getElem? (i := 169) rfl) rfl) rfl hob (by decide) rfl (Nat.le_of_ble_eq_true rfl) dX2_readRope_106 rfl (kV fun hv10  hw => ?_)
    refine r_sub [1, 2, 3, 0] rfl ?_
    exact tb_X2_readRope_109 C hr  hw
def wb_X2_readRope_60  (h : AH) (al0 : Nat) (xl1 : Int32) (xl2 : Int32)  (post : AH → Prop) : Prop := (ob h al0 2) ∧ wp_X7_fail 2 h al0 3 (fun hv1  => wb_X2_readRope_65  hv1 al0 xl1 xl2 post)
set_option maxRecDepth 100000 in
theorem tb_X2_readRope_60 {G : GG} {p : Program} {l : Launch} {e : Env} {R : Room} {s : State} {m : MethodId} {args : Array Value} {below : List Frame} {meth : Method} {c : Code} {n0 s0 : Nat} {post : AH → Prop} (C : Cx G p R s m args meth c 5 cX2_readRope RX2 n0 s0 4 86) (hr : meth.sig.returnType = none)   {h : AH} {al0 : Nat} {xl1 : Int32} {xl2 : Int32}  (hw : wb_X2_readRope_60  h al0 xl1 xl2 post) : AW G p l e R s m args below meth c 5 (QM G (pV post) args s below n0 s0) 60 [(0, .ref (G.1 + al0)), (1, .int xl1), (2, .int xl2)] [] h := by
  unfold wb_X2_readRope_60 at hw
  refine r_aload_n C dX2_readRope_60 0 rfl ?_
  refine r_iconst (v := 3) C dX2_readRope_61 (by decide) ?_
  have hob := hw.1
  replace hw := hw.2
  refine r_callU C (x := ⟨RX2, "fail", "(I)V"⟩) (As := [.int 3]) (rest := []) (c_X7_fail (by decide) G h al0 3 _ hw) yl_X7_fail (gm3 (List.mem_of_getElem? (i := 166) rfl) rfl) (gm3 (List.mem_of_getElem? (i := 157) rfl) rfl) (ci := 2) rfl (by decide) (gm3 (List.mem_of_getElem? (i := 167) rfl) rfl) (gm3 (List.mem_of_getElem? (i := 169) rfl) rfl) rfl hob (by decide) rfl (Nat.le_of_ble_eq_true rfl) dX2_readRope_62 rfl (kV fun hv1  hw => ?_)
  refine r_sub [0, 1, 2] rfl ?_
  exact tb_X2_readRope_65 C hr  hw
def wb_X2_readRope_20  (h : AH) (al0 : Nat)  (post : AH → Prop) : Prop := (ob h al0 2) ∧ (∃ rv1, aP h al0 12 = some rv1 ∧ ((ob h al0 2) ∧ wp_X7_readRaft 2 h al0 rv1 (fun hv2 iv3 => (ob hv2 al0 2) ∧ (∃ rv4, aP hv2 al0 12 = some rv4 ∧ ((ob hv2 al0 2) ∧ wp_X7_readRaft 2 hv2 al0 rv4 (fun hv5 iv6 => (iv3 = iv6 → (wb_X2_readRope_60  hv5 al0 iv3 iv6 post)) ∧ (¬ iv3 = iv6 → ((ob hv5 al0 2) ∧ (∃ rv7, aP hv5 al0 12 = some rv7 ∧ ((ob hv5 rv7 1) ∧ (∃ rv8, aP hv5 rv7 14 = some rv8 ∧ ((ob hv5 rv8 4) ∧ wp_X4_reachOf hv5 rv8 iv3 iv6 (fun hv9 iv10 => (iv10 = 99 → (wb_X2_readRope_65  hv9 al0 iv3 iv6 post)) ∧ (¬ iv10 = 99 → (wb_X2_readRope_60  hv9 al0 iv3 iv6 post)))))))))))))))
set_option maxRecDepth 100000 in
theorem tb_X2_readRope_20 {G : GG} {p : Program} {l : Launch} {e : Env} {R : Room} {s : State} {m : MethodId} {args : Array Value} {below : List Frame} {meth : Method} {c : Code} {n0 s0 : Nat} {post : AH → Prop} (C : Cx G p R s m args meth c 5 cX2_readRope RX2 n0 s0 4 86) (hr : meth.sig.returnType = none)   {h : AH} {al0 : Nat}  (hw : wb_X2_readRope_20  h al0 post) : AW G p l e R s m args below meth c 5 (QM G (pV post) args s below n0 s0) 20 [(0, .ref (G.1 + al0))] [] h := by
  unfold wb_X2_readRope_20 at hw
  refine r_aload_n C dX2_readRope_20 0 rfl ?_
  refine r_aload_n C dX2_readRope_21 0 rfl ?_
  have hob := hw.1
  obtain ⟨rv1, hp, hw⟩ := hw.2
  refine r_getP C fl_RX2_12_2 hob hp (fun _ _ _ => rfl) dX2_readRope_22 ?_
  have hob := hw.1
  replace hw := hw.2
  refine r_callU C (x := ⟨RX2, "readRaft", "(LRaftTown$Lagoon;)I"⟩) (As := [.ref (G.1 + rv1)]) (rest := []) (c_X7_readRaft (by decide) G h al0 rv1 _ hw) yl_X7_readRaft (gm3 (List.mem_of_getElem? (i := 237) rfl) rfl) (gm4 (List.mem_of_getElem? (i := 1) rfl) rfl) (ci := 2) rfl (by decide) (gm3 (List.mem_of_getElem? (i := 238) rfl) rfl) (gm4 (List.mem_of_getElem? (i := 0) rfl) rfl) rfl hob (by decide) rfl (Nat.le_of_ble_eq_true rfl) dX2_readRope_25 rfl (kI fun hv2 iv3 hw => ?_)
  refine r_istore_n C dX2_readRope_28 [(1, .int iv3), (0, .ref (G.1 + al0))] (by decide) rfl ?_
  refine r_aload_n C dX2_readRope_29 1 rfl ?_
  refine r_aload_n C dX2_readRope_30 1 rfl ?_
  have hob := hw.1
  obtain ⟨rv4, hp, hw⟩ := hw.2
  refine r_getP C fl_RX2_12_2 hob hp (fun _ _ _ => rfl) dX2_readRope_31 ?_
  have hob := hw.1
  replace hw := hw.2
  refine r_callU C (x := ⟨RX2, "readRaft", "(LRaftTown$Lagoon;)I"⟩) (As := [.ref (G.1 + rv4)]) (rest := []) (c_X7_readRaft (by decide) G hv2 al0 rv4 _ hw) yl_X7_readRaft (gm3 (List.mem_of_getElem? (i := 237) rfl) rfl) (gm4 (List.mem_of_getElem? (i := 1) rfl) rfl) (ci := 2) rfl (by decide) (gm3 (List.mem_of_getElem? (i := 238) rfl) rfl) (gm4 (List.mem_of_getElem? (i := 0) rfl) rfl) rfl hob (by decide) rfl (Nat.le_of_ble_eq_true rfl) dX2_readRope_34 rfl (kI fun hv5 iv6 hw => ?_)
  refine r_istore_n C dX2_readRope_37 [(2, .int iv6), (1, .int iv3), (0, .ref (G.1 + al0))] (by decide) rfl ?_
  refine r_iload_n C dX2_readRope_38 1 rfl ?_
  refine r_iload_n C dX2_readRope_39 0 rfl ?_
  refine r_icmp_eq C dX2_readRope_40 60 (by decide) (fun hc => ?_) (fun hc => ?_)
  · replace hw := hw.1 hc
    refine r_sub [2, 1, 0] rfl ?_
    exact tb_X2_readRope_60 C hr  hw
  · replace hw := hw.2 hc
    refine r_aload_n C dX2_readRope_43 2 rfl ?_
    have hob := hw.1
    obtain ⟨rv7, hp, hw⟩ := hw.2
    refine r_getP C fl_RX2_12_2 hob hp (fun _ _ _ => rfl) dX2_readRope_44 ?_
    have hob := hw.1
    obtain ⟨rv8, hp, hw⟩ := hw.2
    refine r_getP C fl_RX2_155_1 hob hp (fun _ _ _ => rfl) dX2_readRope_47 ?_
    refine r_iload_n C dX2_readRope_50 1 rfl ?_
    refine r_iload_n C dX2_readRope_51 0 rfl ?_
    have hob := hw.1
    replace hw := hw.2
    refine r_callV C (As := [.int iv3, .int iv6]) (rest := []) (c_X4_reachOf G hv5 rv8 iv3 iv6 _ hw) yl_X4_reachOf (gm4 (List.mem_of_getElem? (i := 5) rfl) rfl) (gm4 (List.mem_of_getElem? (i := 6) rfl) rfl) (ci := 4) rfl (by decide) (gm4 (List.mem_of_getElem? (i := 7) rfl) rfl) hob (by decide) rfl (Nat.le_of_ble_eq_true rfl) dX2_readRope_52 rfl (kI fun hv9 iv10 hw => ?_)
    refine r_bipush (v := 99) C dX2_readRope_55 (by decide) ?_
    refine r_icmp_eq C dX2_readRope_57 65 (by decide) (fun hc => ?_) (fun hc => ?_)
    · replace hw := hw.1 hc
      refine r_sub [2, 1, 0] rfl ?_
      exact tb_X2_readRope_65 C hr  hw
    · replace hw := hw.2 hc
      refine r_sub [2, 1, 0] rfl ?_
      exact tb_X2_readRope_60 C hr  hw
def wp_X2_readRope (h : AH) (a0 : Nat) (post : AH → Prop) : Prop := (ob h a0 2) ∧ (∃ rv1, aP h a0 12 = some rv1 ∧ ((ob h rv1 1) ∧ (∃ rv2, aP h rv1 14 = some rv2 ∧ ((ob h rv2 4) ∧ (((aI h rv2 0) < 8 → (wb_X2_readRope_20  h a0 post)) ∧ (¬ (aI h rv2 0) < 8 → ((ob h a0 2) ∧ wp_X7_fail 2 h a0 4 (fun hv3  => wb_X2_readRope_20  hv3 a0 post))))))))
set_option maxRecDepth 100000 in
theorem c_X2_readRope (G : GG) (h : AH) (a0 : Nat) (post : AH → Prop) (hw : wp_X2_readRope h a0 post) : MC G yX2_readRope cX2_readRope 5 none 4 86 h [.ref (G.1 + a0)] (pV post) := by
  refine MC.of (lv := [(0, .ref (G.1 + a0))]) (by decide) (Nat.le_of_ble_eq_true rfl) rfl fun p l e R s m args below meth c C hr hnm => ?_
  unfold wp_X2_readRope at hw
  refine r_aload_n C dX2_readRope_0 0 rfl ?_
  have hob := hw.1
  obtain ⟨rv1, hp, hw⟩ := hw.2
  refine r_getP C fl_RX2_12_2 hob hp (fun _ _ _ => rfl) dX2_readRope_1 ?_
  have hob := hw.1
  obtain ⟨rv2, hp, hw⟩ := hw.2
  refine r_getP C fl_RX2_155_1 hob hp (fun _ _ _ => rfl) dX2_readRope_4 ?_
  refine r_getI C fl_RX2_159_4 hw.1 (fun _ _ _ => rfl) dX2_readRope_7 ?_
  replace hw := hw.2
  refine r_bipush (v := 8) C dX2_readRope_10 (by decide) ?_
  refine r_icmp_lt C dX2_readRope_12 20 (by decide) (fun hc => ?_) (fun hc => ?_)
  · replace hw := hw.1 hc
    refine r_sub [0] rfl ?_
    exact tb_X2_readRope_20 C hr  hw
  · replace hw := hw.2 hc
    refine r_aload_n C dX2_readRope_15 0 rfl ?_
    refine r_iconst (v := 4) C dX2_readRope_16 (by decide) ?_
    have hob := hw.1
    replace hw := hw.2
    refine r_callU C (x := ⟨RX2, "fail", "(I)V"⟩) (As := [.int 4]) (rest := []) (c_X7_fail (by decide) G h a0 4 _ hw) yl_X7_fail (gm3 (List.mem_of_getElem? (i := 166) rfl) rfl) (gm3 (List.mem_of_getElem? (i := 157) rfl) rfl) (ci := 2) rfl (by decide) (gm3 (List.mem_of_getElem? (i := 167) rfl) rfl) (gm3 (List.mem_of_getElem? (i := 169) rfl) rfl) rfl hob (by decide) rfl (Nat.le_of_ble_eq_true rfl) dX2_readRope_17 rfl (kV fun hv3  hw => ?_)
    refine r_sub [0] rfl ?_
    exact tb_X2_readRope_20 C hr  hw
theorem dX2_readMoor_0 : decode cX2_readMoor 0 = .ok (.aload_n 0, 1) := by decide +kernel
theorem dX2_readMoor_1 : decode cX2_readMoor 1 = .ok (.aload_n 0, 1) := by decide +kernel
theorem dX2_readMoor_2 : decode cX2_readMoor 2 = .ok (.getfield 12, 3) := by decide +kernel
theorem dX2_readMoor_5 : decode cX2_readMoor 5 = .ok (.invokevirtual 164, 3) := by decide +kernel
theorem dX2_readMoor_8 : decode cX2_readMoor 8 = .ok (.istore_n 1, 1) := by decide +kernel
theorem dX2_readMoor_9 : decode cX2_readMoor 9 = .ok (.aload_n 0, 1) := by decide +kernel
theorem dX2_readMoor_10 : decode cX2_readMoor 10 = .ok (.getfield 12, 3) := by decide +kernel
theorem dX2_readMoor_13 : decode cX2_readMoor 13 = .ok (.getfield 155, 3) := by decide +kernel
theorem dX2_readMoor_16 : decode cX2_readMoor 16 = .ok (.getfield 179, 3) := by decide +kernel
theorem dX2_readMoor_19 : decode cX2_readMoor 19 = .ok (.iload_n 1, 1) := by decide +kernel
theorem dX2_readMoor_20 : decode cX2_readMoor 20 = .ok (.iaload, 1) := by decide +kernel
theorem dX2_readMoor_21 : decode cX2_readMoor 21 = .ok (.ifCond .eq 8, 3) := by decide +kernel
theorem dX2_readMoor_24 : decode cX2_readMoor 24 = .ok (.aload_n 0, 1) := by decide +kernel
theorem dX2_readMoor_25 : decode cX2_readMoor 25 = .ok (.iconst 3, 1) := by decide +kernel
theorem dX2_readMoor_26 : decode cX2_readMoor 26 = .ok (.invokevirtual 69, 3) := by decide +kernel
theorem dX2_readMoor_29 : decode cX2_readMoor 29 = .ok (.aload_n 0, 1) := by decide +kernel
theorem dX2_readMoor_30 : decode cX2_readMoor 30 = .ok (.iconst 1, 1) := by decide +kernel
theorem dX2_readMoor_31 : decode cX2_readMoor 31 = .ok (.bipush 99, 2) := by decide +kernel
theorem dX2_readMoor_33 : decode cX2_readMoor 33 = .ok (.invokevirtual 100, 3) := by decide +kernel
theorem dX2_readMoor_36 : decode cX2_readMoor 36 = .ok (.istore_n 2, 1) := by decide +kernel
theorem dX2_readMoor_37 : decode cX2_readMoor 37 = .ok (.aload_n 0, 1) := by decide +kernel
theorem dX2_readMoor_38 : decode cX2_readMoor 38 = .ok (.getfield 90, 3) := by decide +kernel
theorem dX2_readMoor_41 : decode cX2_readMoor 41 = .ok (.ifCond .ne 16, 3) := by decide +kernel
theorem dX2_readMoor_44 : decode cX2_readMoor 44 = .ok (.aload_n 0, 1) := by decide +kernel
theorem dX2_readMoor_45 : decode cX2_readMoor 45 = .ok (.getfield 12, 3) := by decide +kernel
theorem dX2_readMoor_48 : decode cX2_readMoor 48 = .ok (.getfield 155, 3) := by decide +kernel
theorem dX2_readMoor_51 : decode cX2_readMoor 51 = .ok (.getfield 179, 3) := by decide +kernel
theorem dX2_readMoor_54 : decode cX2_readMoor 54 = .ok (.iload_n 1, 1) := by decide +kernel
theorem dX2_readMoor_55 : decode cX2_readMoor 55 = .ok (.iload_n 2, 1) := by decide +kernel
theorem dX2_readMoor_56 : decode cX2_readMoor 56 = .ok (.iastore, 1) := by decide +kernel
theorem dX2_readMoor_57 : decode cX2_readMoor 57 = .ok (.return_, 1) := by decide +kernel
def wb_X2_readMoor_29  (h : AH) (al0 : Nat) (xl1 : Int32)  (post : AH → Prop) : Prop := (ob h al0 2) ∧ wp_X7_readNumber 2 h al0 1 99 (fun hv1 iv2 => (ob hv1 al0 2) ∧ ((¬ (aI hv1 al0 10) = 0 → (post hv1)) ∧ ((aI hv1 al0 10) = 0 → ((ob hv1 al0 2) ∧ (∃ rv3, aP hv1 al0 12 = some rv3 ∧ ((ob hv1 rv3 1) ∧ (∃ rv4, aP hv1 rv3 14 = some rv4 ∧ ((ob hv1 rv4 4) ∧ (∃ rv5, aP hv1 rv4 5 = some rv5 ∧ ((ob hv1 rv5 13) ∧ ((vp_in xl1 (aL hv1 rv5)) ∧ (∀ hv6 : AH, hv6 = hI hv1 rv5 xl1.toNatClampNeg iv2 → (post hv6)))))))))))))
set_option maxRecDepth 100000 in
theorem tb_X2_readMoor_29 {G : GG} {p : Program} {l : Launch} {e : Env} {R : Room} {s : State} {m : MethodId} {args : Array Value} {below : List Frame} {meth : Method} {c : Code} {n0 s0 : Nat} {post : AH → Prop} (C : Cx G p R s m args meth c 3 cX2_readMoor RX2 n0 s0 4 86) (hr : meth.sig.returnType = none)   {h : AH} {al0 : Nat} {xl1 : Int32}  (hw : wb_X2_readMoor_29  h al0 xl1 post) : AW G p l e R s m args below meth c 3 (QM G (pV post) args s below n0 s0) 29 [(0, .ref (G.1 + al0)), (1, .int xl1)] [] h := by
  unfold wb_X2_readMoor_29 at hw
  refine r_aload_n C dX2_readMoor_29 0 rfl ?_
  refine r_iconst (v := 1) C dX2_readMoor_30 (by decide) ?_
  refine r_bipush (v := 99) C dX2_readMoor_31 (by decide) ?_
  have hob := hw.1
  replace hw := hw.2
  refine r_callU C (x := ⟨RX2, "readNumber", "(II)I"⟩) (As := [.int 1, .int 99]) (rest := []) (c_X7_readNumber (by decide) G h al0 1 99 _ hw) yl_X7_readNumber (gm3 (List.mem_of_getElem? (i := 182) rfl) rfl) (gm3 (List.mem_of_getElem? (i := 186) rfl) rfl) (ci := 2) rfl (by decide) (gm3 (List.mem_of_getElem? (i := 183) rfl) rfl) (gm3 (List.mem_of_getElem? (i := 185) rfl) rfl) rfl hob (by decide) rfl (Nat.le_of_ble_eq_true rfl) dX2_readMoor_33 rfl (kI fun hv1 iv2 hw => ?_)
  refine r_istore_n C dX2_readMoor_36 [(2, .int iv2), (0, .ref (G.1 + al0)), (1, .int xl1)] (by decide) rfl ?_
  refine r_aload_n C dX2_readMoor_37 1 rfl ?_
  refine r_getI C fl_RX2_90_2 hw.1 (fun _ _ _ => rfl) dX2_readMoor_38 ?_
  replace hw := hw.2
  refine r_if_ne C dX2_readMoor_41 57 (by decide) (fun hc => ?_) (fun hc => ?_)
  · replace hw := hw.1 hc
    exact r_vret C hr dX2_readMoor_57 hw
  · replace hw := hw.2 hc
    refine r_aload_n C dX2_readMoor_44 1 rfl ?_
    have hob := hw.1
    obtain ⟨rv3, hp, hw⟩ := hw.2
    refine r_getP C fl_RX2_12_2 hob hp (fun _ _ _ => rfl) dX2_readMoor_45 ?_
    have hob := hw.1
    obtain ⟨rv4, hp, hw⟩ := hw.2
    refine r_getP C fl_RX2_155_1 hob hp (fun _ _ _ => rfl) dX2_readMoor_48 ?_
    have hob := hw.1
    obtain ⟨rv5, hp, hw⟩ := hw.2
    refine r_getP C fl_RX2_179_4 hob hp (fun _ _ _ => rfl) dX2_readMoor_51 ?_
    refine r_iload_n C dX2_readMoor_54 2 rfl ?_
    refine r_iload_n C dX2_readMoor_55 0 rfl ?_
    refine r_iastore C hw.1 hw.2.1 dX2_readMoor_56 ?_
    replace hw := hw.2.2
    refine r_toph fun hv6 ehv6 => ?_
    replace hw := hw hv6 ehv6
    exact r_vret C hr dX2_readMoor_57 hw
def wp_X2_readMoor (h : AH) (a0 : Nat) (post : AH → Prop) : Prop := (ob h a0 2) ∧ (∃ rv1, aP h a0 12 = some rv1 ∧ ((ob h a0 2) ∧ wp_X7_readRaft 2 h a0 rv1 (fun hv2 iv3 => (ob hv2 a0 2) ∧ (∃ rv4, aP hv2 a0 12 = some rv4 ∧ ((ob hv2 rv4 1) ∧ (∃ rv5, aP hv2 rv4 14 = some rv5 ∧ ((ob hv2 rv5 4) ∧ (∃ rv6, aP hv2 rv5 5 = some rv6 ∧ ((ob hv2 rv6 13) ∧ ((vp_in iv3 (aL hv2 rv6)) ∧ (((aI hv2 rv6 iv3.toNatClampNeg) = 0 → (wb_X2_readMoor_29  hv2 a0 iv3 post)) ∧ (¬ (aI hv2 rv6 iv3.toNatClampNeg) = 0 → ((ob hv2 a0 2) ∧ wp_X7_fail 2 hv2 a0 3 (fun hv7  => wb_X2_readMoor_29  hv7 a0 iv3 post))))))))))))))
set_option maxRecDepth 100000 in
theorem c_X2_readMoor (G : GG) (h : AH) (a0 : Nat) (post : AH → Prop) (hw : wp_X2_readMoor h a0 post) : MC G yX2_readMoor cX2_readMoor 3 none 4 86 h [.ref (G.1 + a0)] (pV post) := by
  refine MC.of (lv := [(0, .ref (G.1 + a0))]) (by decide) (Nat.le_of_ble_eq_true rfl) rfl fun p l e R s m args below meth c C hr hnm => ?_
  unfold wp_X2_readMoor at hw
  refine r_aload_n C dX2_readMoor_0 0 rfl ?_
  refine r_aload_n C dX2_readMoor_1 0 rfl ?_
  have hob := hw.1
  obtain ⟨rv1, hp, hw⟩ := hw.2
  refine r_getP C fl_RX2_12_2 hob hp (fun _ _ _ => rfl) dX2_readMoor_2 ?_
  have hob := hw.1
  replace hw := hw.2
  refine r_callU C (x := ⟨RX2, "readRaft", "(LRaftTown$Lagoon;)I"⟩) (As := [.ref (G.1 + rv1)]) (rest := []) (c_X7_readRaft (by decide) G h a0 rv1 _ hw) yl_X7_readRaft (gm3 (List.mem_of_getElem? (i := 237) rfl) rfl) (gm4 (List.mem_of_getElem? (i := 1) rfl) rfl) (ci := 2) rfl (by decide) (gm3 (List.mem_of_getElem? (i := 238) rfl) rfl) (gm4 (List.mem_of_getElem? (i := 0) rfl) rfl) rfl hob (by decide) rfl (Nat.le_of_ble_eq_true rfl) dX2_readMoor_5 rfl (kI fun hv2 iv3 hw => ?_)
  refine r_istore_n C dX2_readMoor_8 [(1, .int iv3), (0, .ref (G.1 + a0))] (by decide) rfl ?_
  refine r_aload_n C dX2_readMoor_9 1 rfl ?_
  have hob := hw.1
  obtain ⟨rv4, hp, hw⟩ := hw.2
  refine r_getP C fl_RX2_12_2 hob hp (fun _ _ _ => rfl) dX2_readMoor_10 ?_
  have hob := hw.1
  obtain ⟨rv5, hp, hw⟩ := hw.2
  refine r_getP C fl_RX2_155_1 hob hp (fun _ _ _ => rfl) dX2_readMoor_13 ?_
  have hob := hw.1
  obtain ⟨rv6, hp, hw⟩ := hw.2
  refine r_getP C fl_RX2_179_4 hob hp (fun _ _ _ => rfl) dX2_readMoor_16 ?_
  refine r_iload_n C dX2_readMoor_19 0 rfl ?_
  refine r_iaload C hw.1 hw.2.1 dX2_readMoor_20 ?_
  replace hw := hw.2.2
  refine r_if_eq C dX2_readMoor_21 29 (by decide) (fun hc => ?_) (fun hc => ?_)
  · replace hw := hw.1 hc
    refine r_sub [1, 0] rfl ?_
    exact tb_X2_readMoor_29 C hr  hw
  · replace hw := hw.2 hc
    refine r_aload_n C dX2_readMoor_24 1 rfl ?_
    refine r_iconst (v := 3) C dX2_readMoor_25 (by decide) ?_
    have hob := hw.1
    replace hw := hw.2
    refine r_callU C (x := ⟨RX2, "fail", "(I)V"⟩) (As := [.int 3]) (rest := []) (c_X7_fail (by decide) G hv2 a0 3 _ hw) yl_X7_fail (gm3 (List.mem_of_getElem? (i := 166) rfl) rfl) (gm3 (List.mem_of_getElem? (i := 157) rfl) rfl) (ci := 2) rfl (by decide) (gm3 (List.mem_of_getElem? (i := 167) rfl) rfl) (gm3 (List.mem_of_getElem? (i := 169) rfl) rfl) rfl hob (by decide) rfl (Nat.le_of_ble_eq_true rfl) dX2_readMoor_26 rfl (kV fun hv7  hw => ?_)
    refine r_sub [1, 0] rfl ?_
    exact tb_X2_readMoor_29 C hr  hw
theorem dX2_countWant_0 : decode cX2_countWant 0 = .ok (.aload_n 0, 1) := by decide +kernel
theorem dX2_countWant_1 : decode cX2_countWant 1 = .ok (.getfield 12, 3) := by decide +kernel
theorem dX2_countWant_4 : decode cX2_countWant 4 = .ok (.getfield 182, 3) := by decide +kernel
theorem dX2_countWant_7 : decode cX2_countWant 7 = .ok (.getfield 186, 3) := by decide +kernel
theorem dX2_countWant_10 : decode cX2_countWant 10 = .ok (.bipush 10, 2) := by decide +kernel
theorem dX2_countWant_12 : decode cX2_countWant 12 = .ok (.if_icmp .lt 8, 3) := by decide +kernel
theorem dX2_countWant_15 : decode cX2_countWant 15 = .ok (.aload_n 0, 1) := by decide +kernel
theorem dX2_countWant_16 : decode cX2_countWant 16 = .ok (.iconst 4, 1) := by decide +kernel
theorem dX2_countWant_17 : decode cX2_countWant 17 = .ok (.invokevirtual 69, 3) := by decide +kernel
theorem dX2_countWant_20 : decode cX2_countWant 20 = .ok (.return_, 1) := by decide +kernel
def wp_X2_countWant (h : AH) (a0 : Nat) (post : AH → Prop) : Prop := (ob h a0 2) ∧ (∃ rv1, aP h a0 12 = some rv1 ∧ ((ob h rv1 1) ∧ (∃ rv2, aP h rv1 15 = some rv2 ∧ ((ob h rv2 9) ∧ (((aI h rv2 0) < 10 → (post h)) ∧ (¬ (aI h rv2 0) < 10 → ((ob h a0 2) ∧ wp_X7_fail 2 h a0 4 (fun hv3  => post hv3))))))))
set_option maxRecDepth 100000 in
theorem c_X2_countWant (G : GG) (h : AH) (a0 : Nat) (post : AH → Prop) (hw : wp_X2_countWant h a0 post) : MC G yX2_countWant cX2_countWant 1 none 1 21 h [.ref (G.1 + a0)] (pV post) := by
  refine MC.of (lv := [(0, .ref (G.1 + a0))]) (by decide) (Nat.le_of_ble_eq_true rfl) rfl fun p l e R s m args below meth c C hr hnm => ?_
  unfold wp_X2_countWant at hw
  refine r_aload_n C dX2_countWant_0 0 rfl ?_
  have hob := hw.1
  obtain ⟨rv1, hp, hw⟩ := hw.2
  refine r_getP C fl_RX2_12_2 hob hp (fun _ _ _ => rfl) dX2_countWant_1 ?_
  have hob := hw.1
  obtain ⟨rv2, hp, hw⟩ := hw.2
  refine r_getP C fl_RX2_182_1 hob hp (fun _ _ _ => rfl) dX2_countWant_4 ?_
  refine r_getI C fl_RX2_186_9 hw.1 (fun _ _ _ => rfl) dX2_countWant_7 ?_
  replace hw := hw.2
  refine r_bipush (v := 10) C dX2_countWant_10 (by decide) ?_
  refine r_icmp_lt C dX2_countWant_12 20 (by decide) (fun hc => ?_) (fun hc => ?_)
  · replace hw := hw.1 hc
    exact r_vret C hr dX2_countWant_20 hw
  · replace hw := hw.2 hc
    refine r_aload_n C dX2_countWant_15 0 rfl ?_
    refine r_iconst (v := 4) C dX2_countWant_16 (by decide) ?_
    have hob := hw.1
    replace hw := hw.2
    refine r_callU C (x := ⟨RX2, "fail", "(I)V"⟩) (As := [.int 4]) (rest := []) (c_X7_fail (by decide) G h a0 4 _ hw) yl_X7_fail (gm3 (List.mem_of_getElem? (i := 166) rfl) rfl) (gm3 (List.mem_of_getElem? (i := 157) rfl) rfl) (ci := 2) rfl (by decide) (gm3 (List.mem_of_getElem? (i := 167) rfl) rfl) (gm3 (List.mem_of_getElem? (i := 169) rfl) rfl) rfl hob (by decide) rfl (Nat.le_of_ble_eq_true rfl) dX2_countWant_17 rfl (kV fun hv3  hw => ?_)
    exact r_vret C hr dX2_countWant_20 hw
theorem dX10_add_0 : decode cX10_add 0 = .ok (.aload_n 0, 1) := by decide +kernel
theorem dX10_add_1 : decode cX10_add 1 = .ok (.getfield 24, 3) := by decide +kernel
theorem dX10_add_4 : decode cX10_add 4 = .ok (.bipush 10, 2) := by decide +kernel
theorem dX10_add_6 : decode cX10_add 6 = .ok (.if_icmp .ge 54, 3) := by decide +kernel
theorem dX10_add_9 : decode cX10_add 9 = .ok (.aload_n 0, 1) := by decide +kernel
theorem dX10_add_10 : decode cX10_add 10 = .ok (.getfield 9, 3) := by decide +kernel
theorem dX10_add_13 : decode cX10_add 13 = .ok (.aload_n 0, 1) := by decide +kernel
theorem dX10_add_14 : decode cX10_add 14 = .ok (.getfield 24, 3) := by decide +kernel
theorem dX10_add_17 : decode cX10_add 17 = .ok (.iload_n 1, 1) := by decide +kernel
theorem dX10_add_18 : decode cX10_add 18 = .ok (.iastore, 1) := by decide +kernel
theorem dX10_add_19 : decode cX10_add 19 = .ok (.aload_n 0, 1) := by decide +kernel
theorem dX10_add_20 : decode cX10_add 20 = .ok (.getfield 15, 3) := by decide +kernel
theorem dX10_add_23 : decode cX10_add 23 = .ok (.aload_n 0, 1) := by decide +kernel
theorem dX10_add_24 : decode cX10_add 24 = .ok (.getfield 24, 3) := by decide +kernel
theorem dX10_add_27 : decode cX10_add 27 = .ok (.iload_n 2, 1) := by decide +kernel
theorem dX10_add_28 : decode cX10_add 28 = .ok (.iastore, 1) := by decide +kernel
theorem dX10_add_29 : decode cX10_add 29 = .ok (.aload_n 0, 1) := by decide +kernel
theorem dX10_add_30 : decode cX10_add 30 = .ok (.getfield 18, 3) := by decide +kernel
theorem dX10_add_33 : decode cX10_add 33 = .ok (.aload_n 0, 1) := by decide +kernel
theorem dX10_add_34 : decode cX10_add 34 = .ok (.getfield 24, 3) := by decide +kernel
theorem dX10_add_37 : decode cX10_add 37 = .ok (.iload_n 3, 1) := by decide +kernel
theorem dX10_add_38 : decode cX10_add 38 = .ok (.iastore, 1) := by decide +kernel
theorem dX10_add_39 : decode cX10_add 39 = .ok (.aload_n 0, 1) := by decide +kernel
theorem dX10_add_40 : decode cX10_add 40 = .ok (.getfield 21, 3) := by decide +kernel
theorem dX10_add_43 : decode cX10_add 43 = .ok (.aload_n 0, 1) := by decide +kernel
theorem dX10_add_44 : decode cX10_add 44 = .ok (.getfield 24, 3) := by decide +kernel
theorem dX10_add_47 : decode cX10_add 47 = .ok (.iload 4, 2) := by decide +kernel
theorem dX10_add_49 : decode cX10_add 49 = .ok (.iastore, 1) := by decide +kernel
theorem dX10_add_50 : decode cX10_add 50 = .ok (.aload_n 0, 1) := by decide +kernel
theorem dX10_add_51 : decode cX10_add 51 = .ok (.dup, 1) := by decide +kernel
theorem dX10_add_52 : decode cX10_add 52 = .ok (.getfield 24, 3) := by decide +kernel
theorem dX10_add_55 : decode cX10_add 55 = .ok (.iconst 1, 1) := by decide +kernel
theorem dX10_add_56 : decode cX10_add 56 = .ok (.iadd, 1) := by decide +kernel
theorem dX10_add_57 : decode cX10_add 57 = .ok (.putfield 24, 3) := by decide +kernel
theorem dX10_add_60 : decode cX10_add 60 = .ok (.return_, 1) := by decide +kernel
def wp_X10_add (h : AH) (a0 : Nat) (x1 : Int32) (x2 : Int32) (x3 : Int32) (x4 : Int32) (post : AH → Prop) : Prop := (ob h a0 9) ∧ ((10 ≤ (aI h a0 0) → (post h)) ∧ (¬ 10 ≤ (aI h a0 0) → ((ob h a0 9) ∧ (∃ rv1, aP h a0 1 = some rv1 ∧ ((ob h a0 9) ∧ ((ob h rv1 13) ∧ ((vp_in (aI h a0 0) (aL h rv1)) ∧ (∀ hv2 : AH, hv2 = hI h rv1 (aI h a0 0).toNatClampNeg x1 → ((ob hv2 a0 9) ∧ (∃ rv3, aP hv2 a0 2 = some rv3 ∧ ((ob hv2 a0 9) ∧ ((ob hv2 rv3 13) ∧ ((vp_in (aI hv2 a0 0) (aL hv2 rv3)) ∧ (∀ hv4 : AH, hv4 = hI hv2 rv3 (aI hv2 a0 0).toNatClampNeg x2 → ((ob hv4 a0 9) ∧ (∃ rv5, aP hv4 a0 3 = some rv5 ∧ ((ob hv4 a0 9) ∧ ((ob hv4 rv5 13) ∧ ((vp_in (aI hv4 a0 0) (aL hv4 rv5)) ∧ (∀ hv6 : AH, hv6 = hI hv4 rv5 (aI hv4 a0 0).toNatClampNeg x3 → ((ob hv6 a0 9) ∧ (∃ rv7, aP hv6 a0 4 = some rv7 ∧ ((ob hv6 a0 9) ∧ ((ob hv6 rv7 13) ∧ ((vp_in (aI hv6 a0 0) (aL hv6 rv7)) ∧ (∀ hv8 : AH, hv8 = hI hv6 rv7 (aI hv6 a0 0).toNatClampNeg x4 → ((ob hv8 a0 9) ∧ ((ob hv8 a0 9) ∧ (∀ hv9 : AH, hv9 = hI hv8 a0 0 ((aI hv8 a0 0) + (1 : Int32)) → (post hv9))))))))))))))))))))))))))))))
set_option maxRecDepth 100000 in
theorem c_X10_add (G : GG) (h : AH) (a0 : Nat) (x1 : Int32) (x2 : Int32) (x3 : Int32) (x4 : Int32) (post : AH → Prop) (hw : wp_X10_add h a0 x1 x2 x3 x4 post) : MC G yX10_add cX10_add 5 none 0 0 h [.ref (G.1 + a0), .int x1, .int x2, .int x3, .int x4] (pV post) := by
  refine MC.of (lv := [(0, .ref (G.1 + a0)), (1, .int x1), (2, .int x2), (3, .int x3), (4, .int x4)]) (by decide) (Nat.le_of_ble_eq_true rfl) rfl fun p l e R s m args below meth c C hr hnm => ?_
  unfold wp_X10_add at hw
  refine r_aload_n C dX10_add_0 0 rfl ?_
  refine r_getI C fl_RX10_24_9 hw.1 (fun _ _ _ => rfl) dX10_add_1 ?_
  replace hw := hw.2
  refine r_bipush (v := 10) C dX10_add_4 (by decide) ?_
  refine r_icmp_ge C dX10_add_6 60 (by decide) (fun hc => ?_) (fun hc => ?_)
  · replace hw := hw.1 hc
    exact r_vret C hr dX10_add_60 hw
  · replace hw := hw.2 hc
    refine r_aload_n C dX10_add_9 0 rfl ?_
    have hob := hw.1
    obtain ⟨rv1, hp, hw⟩ := hw.2
    refine r_getP C fl_RX10_9_9 hob hp (fun _ _ _ => rfl) dX10_add_10 ?_
    refine r_aload_n C dX10_add_13 0 rfl ?_
    refine r_getI C fl_RX10_24_9 hw.1 (fun _ _ _ => rfl) dX10_add_14 ?_
    replace hw := hw.2
    refine r_iload_n C dX10_add_17 1 rfl ?_
    refine r_iastore C hw.1 hw.2.1 dX10_add_18 ?_
    replace hw := hw.2.2
    refine r_toph fun hv2 ehv2 => ?_
    replace hw := hw hv2 ehv2
    refine r_aload_n C dX10_add_19 0 rfl ?_
    have hob := hw.1
    obtain ⟨rv3, hp, hw⟩ := hw.2
    refine r_getP C fl_RX10_15_9 hob hp (fun _ _ _ => rfl) dX10_add_20 ?_
    refine r_aload_n C dX10_add_23 0 rfl ?_
    refine r_getI C fl_RX10_24_9 hw.1 (fun _ _ _ => rfl) dX10_add_24 ?_
    replace hw := hw.2
    refine r_iload_n C dX10_add_27 2 rfl ?_
    refine r_iastore C hw.1 hw.2.1 dX10_add_28 ?_
    replace hw := hw.2.2
    refine r_toph fun hv4 ehv4 => ?_
    replace hw := hw hv4 ehv4
    refine r_aload_n C dX10_add_29 0 rfl ?_
    have hob := hw.1
    obtain ⟨rv5, hp, hw⟩ := hw.2
    refine r_getP C fl_RX10_18_9 hob hp (fun _ _ _ => rfl) dX10_add_30 ?_
    refine r_aload_n C dX10_add_33 0 rfl ?_
    refine r_getI C fl_RX10_24_9 hw.1 (fun _ _ _ => rfl) dX10_add_34 ?_
    replace hw := hw.2
    refine r_iload_n C dX10_add_37 3 rfl ?_
    refine r_iastore C hw.1 hw.2.1 dX10_add_38 ?_
    replace hw := hw.2.2
    refine r_toph fun hv6 ehv6 => ?_
    replace hw := hw hv6 ehv6
    refine r_aload_n C dX10_add_39 0 rfl ?_
    have hob := hw.1
    obtain ⟨rv7, hp, hw⟩ := hw.2
    refine r_getP C fl_RX10_21_9 hob hp (fun _ _ _ => rfl) dX10_add_40 ?_
    refine r_aload_n C dX10_add_43 0 rfl ?_
    refine r_getI C fl_RX10_24_9 hw.1 (fun _ _ _ => rfl) dX10_add_44 ?_
    replace hw := hw.2
    refine r_iload C dX10_add_47 4 rfl ?_
    refine r_iastore C hw.1 hw.2.1 dX10_add_49 ?_
    replace hw := hw.2.2
    refine r_toph fun hv8 ehv8 => ?_
    replace hw := hw hv8 ehv8
    refine r_aload_n C dX10_add_50 0 rfl ?_
    refine r_dup C dX10_add_51 rfl ?_
    refine r_getI C fl_RX10_24_9 hw.1 (fun _ _ _ => rfl) dX10_add_52 ?_
    replace hw := hw.2
    refine r_iconst (v := 1) C dX10_add_55 (by decide) ?_
    refine r_iadd C dX10_add_56 ?_
    refine r_putI C fp_RX10_24_9 hw.1 rfl dX10_add_57 ?_
    replace hw := hw.2
    refine r_toph fun hv9 ehv9 => ?_
    replace hw := hw hv9 ehv9
    exact r_vret C hr dX10_add_60 hw
theorem dX2_addWant_0 : decode cX2_addWant 0 = .ok (.aload_n 0, 1) := by decide +kernel
theorem dX2_addWant_1 : decode cX2_addWant 1 = .ok (.getfield 90, 3) := by decide +kernel
theorem dX2_addWant_4 : decode cX2_addWant 4 = .ok (.ifCond .ne 18, 3) := by decide +kernel
theorem dX2_addWant_7 : decode cX2_addWant 7 = .ok (.aload_n 0, 1) := by decide +kernel
theorem dX2_addWant_8 : decode cX2_addWant 8 = .ok (.getfield 12, 3) := by decide +kernel
theorem dX2_addWant_11 : decode cX2_addWant 11 = .ok (.getfield 182, 3) := by decide +kernel
theorem dX2_addWant_14 : decode cX2_addWant 14 = .ok (.iload_n 1, 1) := by decide +kernel
theorem dX2_addWant_15 : decode cX2_addWant 15 = .ok (.iload_n 2, 1) := by decide +kernel
theorem dX2_addWant_16 : decode cX2_addWant 16 = .ok (.iload_n 3, 1) := by decide +kernel
theorem dX2_addWant_17 : decode cX2_addWant 17 = .ok (.iload 4, 2) := by decide +kernel
theorem dX2_addWant_19 : decode cX2_addWant 19 = .ok (.invokevirtual 189, 3) := by decide +kernel
theorem dX2_addWant_22 : decode cX2_addWant 22 = .ok (.return_, 1) := by decide +kernel
def wp_X2_addWant (h : AH) (a0 : Nat) (x1 : Int32) (x2 : Int32) (x3 : Int32) (x4 : Int32) (post : AH → Prop) : Prop := (ob h a0 2) ∧ ((¬ (aI h a0 10) = 0 → (post h)) ∧ ((aI h a0 10) = 0 → ((ob h a0 2) ∧ (∃ rv1, aP h a0 12 = some rv1 ∧ ((ob h rv1 1) ∧ (∃ rv2, aP h rv1 15 = some rv2 ∧ ((ob h rv2 9) ∧ wp_X10_add h rv2 x1 x2 x3 x4 (fun hv3  => post hv3))))))))
set_option maxRecDepth 100000 in
theorem c_X2_addWant (G : GG) (h : AH) (a0 : Nat) (x1 : Int32) (x2 : Int32) (x3 : Int32) (x4 : Int32) (post : AH → Prop) (hw : wp_X2_addWant h a0 x1 x2 x3 x4 post) : MC G yX2_addWant cX2_addWant 5 none 1 24 h [.ref (G.1 + a0), .int x1, .int x2, .int x3, .int x4] (pV post) := by
  refine MC.of (lv := [(0, .ref (G.1 + a0)), (1, .int x1), (2, .int x2), (3, .int x3), (4, .int x4)]) (by decide) (Nat.le_of_ble_eq_true rfl) rfl fun p l e R s m args below meth c C hr hnm => ?_
  unfold wp_X2_addWant at hw
  refine r_aload_n C dX2_addWant_0 0 rfl ?_
  refine r_getI C fl_RX2_90_2 hw.1 (fun _ _ _ => rfl) dX2_addWant_1 ?_
  replace hw := hw.2
  refine r_if_ne C dX2_addWant_4 22 (by decide) (fun hc => ?_) (fun hc => ?_)
  · replace hw := hw.1 hc
    exact r_vret C hr dX2_addWant_22 hw
  · replace hw := hw.2 hc
    refine r_aload_n C dX2_addWant_7 0 rfl ?_
    have hob := hw.1
    obtain ⟨rv1, hp, hw⟩ := hw.2
    refine r_getP C fl_RX2_12_2 hob hp (fun _ _ _ => rfl) dX2_addWant_8 ?_
    have hob := hw.1
    obtain ⟨rv2, hp, hw⟩ := hw.2
    refine r_getP C fl_RX2_182_1 hob hp (fun _ _ _ => rfl) dX2_addWant_11 ?_
    refine r_iload_n C dX2_addWant_14 1 rfl ?_
    refine r_iload_n C dX2_addWant_15 2 rfl ?_
    refine r_iload_n C dX2_addWant_16 3 rfl ?_
    refine r_iload C dX2_addWant_17 4 rfl ?_
    have hob := hw.1
    replace hw := hw.2
    refine r_callV C (As := [.int x1, .int x2, .int x3, .int x4]) (rest := []) (c_X10_add G h rv2 x1 x2 x3 x4 _ hw) yl_X10_add (gm4 (List.mem_of_getElem? (i := 36) rfl) rfl) (gm4 (List.mem_of_getElem? (i := 37) rfl) rfl) (ci := 9) rfl (by decide) (gm4 (List.mem_of_getElem? (i := 38) rfl) rfl) hob (by decide) rfl (Nat.le_of_ble_eq_true rfl) dX2_addWant_19 rfl (kV fun hv3  hw => ?_)
    exact r_vret C hr dX2_addWant_22 hw
theorem dX2_readPairWant_0 : decode cX2_readPairWant 0 = .ok (.aload_n 0, 1) := by decide +kernel
theorem dX2_readPairWant_1 : decode cX2_readPairWant 1 = .ok (.invokevirtual 190, 3) := by decide +kernel
theorem dX2_readPairWant_4 : decode cX2_readPairWant 4 = .ok (.aload_n 0, 1) := by decide +kernel
theorem dX2_readPairWant_5 : decode cX2_readPairWant 5 = .ok (.aload_n 0, 1) := by decide +kernel
theorem dX2_readPairWant_6 : decode cX2_readPairWant 6 = .ok (.getfield 12, 3) := by decide +kernel
theorem dX2_readPairWant_9 : decode cX2_readPairWant 9 = .ok (.invokevirtual 164, 3) := by decide +kernel
theorem dX2_readPairWant_12 : decode cX2_readPairWant 12 = .ok (.istore_n 2, 1) := by decide +kernel
theorem dX2_readPairWant_13 : decode cX2_readPairWant 13 = .ok (.aload_n 0, 1) := by decide +kernel
theorem dX2_readPairWant_14 : decode cX2_readPairWant 14 = .ok (.aload_n 0, 1) := by decide +kernel
theorem dX2_readPairWant_15 : decode cX2_readPairWant 15 = .ok (.getfield 12, 3) := by decide +kernel
theorem dX2_readPairWant_18 : decode cX2_readPairWant 18 = .ok (.invokevirtual 164, 3) := by decide +kernel
theorem dX2_readPairWant_21 : decode cX2_readPairWant 21 = .ok (.istore_n 3, 1) := by decide +kernel
theorem dX2_readPairWant_22 : decode cX2_readPairWant 22 = .ok (.iload_n 2, 1) := by decide +kernel
theorem dX2_readPairWant_23 : decode cX2_readPairWant 23 = .ok (.iload_n 3, 1) := by decide +kernel
theorem dX2_readPairWant_24 : decode cX2_readPairWant 24 = .ok (.if_icmp .ne 8, 3) := by decide +kernel
theorem dX2_readPairWant_27 : decode cX2_readPairWant 27 = .ok (.aload_n 0, 1) := by decide +kernel
theorem dX2_readPairWant_28 : decode cX2_readPairWant 28 = .ok (.iconst 3, 1) := by decide +kernel
theorem dX2_readPairWant_29 : decode cX2_readPairWant 29 = .ok (.invokevirtual 69, 3) := by decide +kernel
theorem dX2_readPairWant_32 : decode cX2_readPairWant 32 = .ok (.aload_n 0, 1) := by decide +kernel
theorem dX2_readPairWant_33 : decode cX2_readPairWant 33 = .ok (.iload_n 1, 1) := by decide +kernel
theorem dX2_readPairWant_34 : decode cX2_readPairWant 34 = .ok (.iload_n 2, 1) := by decide +kernel
theorem dX2_readPairWant_35 : decode cX2_readPairWant 35 = .ok (.iload_n 3, 1) := by decide +kernel
theorem dX2_readPairWant_36 : decode cX2_readPairWant 36 = .ok (.aload_n 0, 1) := by decide +kernel
theorem dX2_readPairWant_37 : decode cX2_readPairWant 37 = .ok (.iconst 1, 1) := by decide +kernel
theorem dX2_readPairWant_38 : decode cX2_readPairWant 38 = .ok (.bipush 99, 2) := by decide +kernel
theorem dX2_readPairWant_40 : decode cX2_readPairWant 40 = .ok (.invokevirtual 100, 3) := by decide +kernel
theorem dX2_readPairWant_43 : decode cX2_readPairWant 43 = .ok (.invokevirtual 193, 3) := by decide +kernel
theorem dX2_readPairWant_46 : decode cX2_readPairWant 46 = .ok (.return_, 1) := by decide +kernel
def wb_X2_readPairWant_32  (h : AH) (al0 : Nat) (xl1 : Int32) (xl2 : Int32) (xl3 : Int32)  (post : AH → Prop) : Prop := (ob h al0 2) ∧ wp_X7_readNumber 2 h al0 1 99 (fun hv1 iv2 => (ob hv1 al0 2) ∧ wp_X2_addWant hv1 al0 xl1 xl2 xl3 iv2 (fun hv3  => post hv3))
set_option maxRecDepth 100000 in
theorem tb_X2_readPairWant_32 {G : GG} {p : Program} {l : Launch} {e : Env} {R : Room} {s : State} {m : MethodId} {args : Array Value} {below : List Frame} {meth : Method} {c : Code} {n0 s0 : Nat} {post : AH → Prop} (C : Cx G p R s m args meth c 4 cX2_readPairWant RX2 n0 s0 4 86) (hr : meth.sig.returnType = none)   {h : AH} {al0 : Nat} {xl1 : Int32} {xl2 : Int32} {xl3 : Int32}  (hw : wb_X2_readPairWant_32  h al0 xl1 xl2 xl3 post) : AW G p l e R s m args below meth c 4 (QM G (pV post) args s below n0 s0) 32 [(0, .ref (G.1 + al0)), (1, .int xl1), (2, .int xl2), (3, .int xl3)] [] h := by
  unfold wb_X2_readPairWant_32 at hw
  refine r_aload_n C dX2_readPairWant_32 0 rfl ?_
  refine r_iload_n C dX2_readPairWant_33 1 rfl ?_
  refine r_iload_n C dX2_readPairWant_34 2 rfl ?_
  refine r_iload_n C dX2_readPairWant_35 3 rfl ?_
  refine r_aload_n C dX2_readPairWant_36 0 rfl ?_
  refine r_iconst (v := 1) C dX2_readPairWant_37 (by decide) ?_
  refine r_bipush (v := 99) C dX2_readPairWant_38 (by decide) ?_
  have hob := hw.1
  replace hw := hw.2
  refine r_callU C (x := ⟨RX2, "readNumber", "(II)I"⟩) (As := [.int 1, .int 99]) (rest := [.int xl3, .int xl2, .int xl1, .ref (G.1 + al0)]) (c_X7_readNumber (by decide) G h al0 1 99 _ hw) yl_X7_readNumber (gm3 (List.mem_of_getElem? (i := 182) rfl) rfl) (gm3 (List.mem_of_getElem? (i := 186) rfl) rfl) (ci := 2) rfl (by decide) (gm3 (List.mem_of_getElem? (i := 183) rfl) rfl) (gm3 (List.mem_of_getElem? (i := 185) rfl) rfl) rfl hob (by decide) rfl (Nat.le_of_ble_eq_true rfl) dX2_readPairWant_40 rfl (kI fun hv1 iv2 hw => ?_)
  have hob := hw.1
  replace hw := hw.2
  refine r_callV C (As := [.int xl1, .int xl2, .int xl3, .int iv2]) (rest := []) (c_X2_addWant G hv1 al0 xl1 xl2 xl3 iv2 _ hw) yl_X2_addWant (gm4 (List.mem_of_getElem? (i := 32) rfl) rfl) (gm4 (List.mem_of_getElem? (i := 34) rfl) rfl) (ci := 2) rfl (by decide) (gsel (List.mem_of_getElem? (i := 12) rfl)) hob (by decide) rfl (Nat.le_of_ble_eq_true rfl) dX2_readPairWant_43 rfl (kV fun hv3  hw => ?_)
  exact r_vret C hr dX2_readPairWant_46 hw
def wp_X2_readPairWant (h : AH) (a0 : Nat) (x1 : Int32) (post : AH → Prop) : Prop := (ob h a0 2) ∧ wp_X2_countWant h a0  (fun hv1  => (ob hv1 a0 2) ∧ (∃ rv2, aP hv1 a0 12 = some rv2 ∧ ((ob hv1 a0 2) ∧ wp_X7_readRaft 2 hv1 a0 rv2 (fun hv3 iv4 => (ob hv3 a0 2) ∧ (∃ rv5, aP hv3 a0 12 = some rv5 ∧ ((ob hv3 a0 2) ∧ wp_X7_readRaft 2 hv3 a0 rv5 (fun hv6 iv7 => (¬ iv4 = iv7 → (wb_X2_readPairWant_32  hv6 a0 x1 iv4 iv7 post)) ∧ (iv4 = iv7 → ((ob hv6 a0 2) ∧ wp_X7_fail 2 hv6 a0 3 (fun hv8  => wb_X2_readPairWant_32  hv8 a0 x1 iv4 iv7 post))))))))))
set_option maxRecDepth 100000 in
theorem c_X2_readPairWant (G : GG) (h : AH) (a0 : Nat) (x1 : Int32) (post : AH → Prop) (hw : wp_X2_readPairWant h a0 x1 post) : MC G yX2_readPairWant cX2_readPairWant 4 none 4 86 h [.ref (G.1 + a0), .int x1] (pV post) := by
  refine MC.of (lv := [(0, .ref (G.1 + a0)), (1, .int x1)]) (by decide) (Nat.le_of_ble_eq_true rfl) rfl fun p l e R s m args below meth c C hr hnm => ?_
  unfold wp_X2_readPairWant at hw
  refine r_aload_n C dX2_readPairWant_0 0 rfl ?_
  have hob := hw.1
  replace hw := hw.2
  refine r_callV C (As := []) (rest := []) (c_X2_countWant G h a0  _ hw) yl_X2_countWant (gm4 (List.mem_of_getElem? (i := 28) rfl) rfl) (gm4 (List.mem_of_getElem? (i := 30) rfl) rfl) (ci := 2) rfl (by decide) (gsel (List.mem_of_getElem? (i := 11) rfl)) hob (by decide) rfl (Nat.le_of_ble_eq_true rfl) dX2_readPairWant_1 rfl (kV fun hv1  hw => ?_)
  refine r_aload_n C dX2_readPairWant_4 0 rfl ?_
  refine r_aload_n C dX2_readPairWant_5 0 rfl ?_
  have hob := hw.1
  obtain ⟨rv2, hp, hw⟩ := hw.2
  refine r_getP C fl_RX2_12_2 hob hp (fun _ _ _ => rfl) dX2_readPairWant_6 ?_
  have hob := hw.1
  replace hw := hw.2
  refine r_callU C (x := ⟨RX2, "readRaft", "(LRaftTown$Lagoon;)I"⟩) (As := [.ref (G.1 + rv2)]) (rest := []) (c_X7_readRaft (by decide) G hv1 a0 rv2 _ hw) yl_X7_readRaft (gm3 (List.mem_of_getElem? (i := 237) rfl) rfl) (gm4 (List.mem_of_getElem? (i := 1) rfl) rfl) (ci := 2) rfl (by decide) (gm3 (List.mem_of_getElem? (i := 238) rfl) rfl) (gm4 (List.mem_of_getElem? (i := 0) rfl) rfl) rfl hob (by decide) rfl (Nat.le_of_ble_eq_true rfl) dX2_readPairWant_9 rfl (kI fun hv3 iv4 hw => ?_)
  refine r_istore_n C dX2_readPairWant_12 [(2, .int iv4), (0, .ref (G.1 + a0)), (1, .int x1)] (by decide) rfl ?_
  refine r_aload_n C dX2_readPairWant_13 1 rfl ?_
  refine r_aload_n C dX2_readPairWant_14 1 rfl ?_
  have hob := hw.1
  obtain ⟨rv5, hp, hw⟩ := hw.2
  refine r_getP C fl_RX2_12_2 hob hp (fun _ _ _ => rfl) dX2_readPairWant_15 ?_
  have hob := hw.1
  replace hw := hw.2
  refine r_callU C (x := ⟨RX2, "readRaft", "(LRaftTown$Lagoon;)I"⟩) (As := [.ref (G.1 + rv5)]) (rest := []) (c_X7_readRaft (by decide) G hv3 a0 rv5 _ hw) yl_X7_readRaft (gm3 (List.mem_of_getElem? (i := 237) rfl) rfl) (gm4 (List.mem_of_getElem? (i := 1) rfl) rfl) (ci := 2) rfl (by decide) (gm3 (List.mem_of_getElem? (i := 238) rfl) rfl) (gm4 (List.mem_of_getElem? (i := 0) rfl) rfl) rfl hob (by decide) rfl (Nat.le_of_ble_eq_true rfl) dX2_readPairWant_18 rfl (kI fun hv6 iv7 hw => ?_)
  refine r_istore_n C dX2_readPairWant_21 [(3, .int iv7), (2, .int iv4), (0, .ref (G.1 + a0)), (1, .int x1)] (by decide) rfl ?_
  refine r_iload_n C dX2_readPairWant_22 1 rfl ?_
  refine r_iload_n C dX2_readPairWant_23 0 rfl ?_
  refine r_icmp_ne C dX2_readPairWant_24 32 (by decide) (fun hc => ?_) (fun hc => ?_)
  · replace hw := hw.1 hc
    refine r_sub [2, 3, 1, 0] rfl ?_
    exact tb_X2_readPairWant_32 C hr  hw
  · replace hw := hw.2 hc
    refine r_aload_n C dX2_readPairWant_27 2 rfl ?_
    refine r_iconst (v := 3) C dX2_readPairWant_28 (by decide) ?_
    have hob := hw.1
    replace hw := hw.2
    refine r_callU C (x := ⟨RX2, "fail", "(I)V"⟩) (As := [.int 3]) (rest := []) (c_X7_fail (by decide) G hv6 a0 3 _ hw) yl_X7_fail (gm3 (List.mem_of_getElem? (i := 166) rfl) rfl) (gm3 (List.mem_of_getElem? (i := 157) rfl) rfl) (ci := 2) rfl (by decide) (gm3 (List.mem_of_getElem? (i := 167) rfl) rfl) (gm3 (List.mem_of_getElem? (i := 169) rfl) rfl) rfl hob (by decide) rfl (Nat.le_of_ble_eq_true rfl) dX2_readPairWant_29 rfl (kV fun hv8  hw => ?_)
    refine r_sub [2, 3, 1, 0] rfl ?_
    exact tb_X2_readPairWant_32 C hr  hw
theorem dX7_readSide_0 : decode cX7_readSide 0 = .ok (.aload_n 0, 1) := by decide +kernel
theorem dX7_readSide_1 : decode cX7_readSide 1 = .ok (.invokevirtual 74, 3) := by decide +kernel
theorem dX7_readSide_4 : decode cX7_readSide 4 = .ok (.aload_n 0, 1) := by decide +kernel
theorem dX7_readSide_5 : decode cX7_readSide 5 = .ok (.getfield 55, 3) := by decide +kernel
theorem dX7_readSide_8 : decode cX7_readSide 8 = .ok (.bipush 11, 2) := by decide +kernel
theorem dX7_readSide_10 : decode cX7_readSide 10 = .ok (.if_icmp .lt 12, 3) := by decide +kernel
theorem dX7_readSide_13 : decode cX7_readSide 13 = .ok (.aload_n 0, 1) := by decide +kernel
theorem dX7_readSide_14 : decode cX7_readSide 14 = .ok (.getfield 55, 3) := by decide +kernel
theorem dX7_readSide_17 : decode cX7_readSide 17 = .ok (.bipush 14, 2) := by decide +kernel
theorem dX7_readSide_19 : decode cX7_readSide 19 = .ok (.if_icmp .le 8, 3) := by decide +kernel
theorem dX7_readSide_22 : decode cX7_readSide 22 = .ok (.aload_n 0, 1) := by decide +kernel
theorem dX7_readSide_23 : decode cX7_readSide 23 = .ok (.iconst 1, 1) := by decide +kernel
theorem dX7_readSide_24 : decode cX7_readSide 24 = .ok (.invokevirtual 77, 3) := by decide +kernel
theorem dX7_readSide_27 : decode cX7_readSide 27 = .ok (.aload_n 0, 1) := by decide +kernel
theorem dX7_readSide_28 : decode cX7_readSide 28 = .ok (.getfield 49, 3) := by decide +kernel
theorem dX7_readSide_31 : decode cX7_readSide 31 = .ok (.ifCond .ne 13, 3) := by decide +kernel
theorem dX7_readSide_34 : decode cX7_readSide 34 = .ok (.aload_n 0, 1) := by decide +kernel
theorem dX7_readSide_35 : decode cX7_readSide 35 = .ok (.getfield 55, 3) := by decide +kernel
theorem dX7_readSide_38 : decode cX7_readSide 38 = .ok (.bipush 11, 2) := by decide +kernel
theorem dX7_readSide_40 : decode cX7_readSide 40 = .ok (.isub, 1) := by decide +kernel
theorem dX7_readSide_41 : decode cX7_readSide 41 = .ok (.goto 4, 3) := by decide +kernel
theorem dX7_readSide_44 : decode cX7_readSide 44 = .ok (.iconst 0, 1) := by decide +kernel
theorem dX7_readSide_45 : decode cX7_readSide 45 = .ok (.ireturn, 1) := by decide +kernel
def wb_X7_readSide_27 (ci : Nat)  (h : AH) (al0 : Nat)  (post : AH → Int32 → Prop) : Prop := (ob h al0 ci) ∧ ((¬ (aI h al0 10) = 0 → (post h 0)) ∧ ((aI h al0 10) = 0 → ((ob h al0 ci) ∧ (post h ((aI h al0 9) - (11 : Int32))))))
set_option maxRecDepth 100000 in
theorem tb_X7_readSide_27 {ci : Nat} (hci : ci = 2 ∨ ci = 3) {G : GG} {p : Program} {l : Launch} {e : Env} {R : Room} {s : State} {m : MethodId} {args : Array Value} {below : List Frame} {meth : Method} {c : Code} {n0 s0 : Nat} {post : AH → Int32 → Prop} (C : Cx G p R s m args meth c 1 cX7_readSide RX7 n0 s0 2 44) (hr : meth.sig.returnType = (some .int))   {h : AH} {al0 : Nat}  (hw : wb_X7_readSide_27 ci  h al0 post) : AW G p l e R s m args below meth c 1 (QM G (pI post) args s below n0 s0) 27 [(0, .ref (G.1 + al0))] [] h := by
  unfold wb_X7_readSide_27 at hw
  rcases hci with rfl | rfl
  · refine r_aload_n C dX7_readSide_27 0 rfl ?_
    refine r_getI C fl_RX7_49_2 hw.1 (fun _ _ _ => rfl) dX7_readSide_28 ?_
    replace hw := hw.2
    refine r_if_ne C dX7_readSide_31 44 (by decide) (fun hc => ?_) (fun hc => ?_)
    · replace hw := hw.1 hc
      refine r_iconst (v := 0) C dX7_readSide_44 (by decide) ?_
      exact r_iret C hr dX7_readSide_45 hw
    · replace hw := hw.2 hc
      refine r_aload_n C dX7_readSide_34 0 rfl ?_
      refine r_getI C fl_RX7_55_2 hw.1 (fun _ _ _ => rfl) dX7_readSide_35 ?_
      replace hw := hw.2
      refine r_bipush (v := 11) C dX7_readSide_38 (by decide) ?_
      refine r_isub C dX7_readSide_40 ?_
      refine r_goto C dX7_readSide_41 45 (by decide) ?_
      exact r_iret C hr dX7_readSide_45 hw
  · refine r_aload_n C dX7_readSide_27 0 rfl ?_
    refine r_getI C fl_RX7_49_3 hw.1 (fun _ _ _ => rfl) dX7_readSide_28 ?_
    replace hw := hw.2
    refine r_if_ne C dX7_readSide_31 44 (by decide) (fun hc => ?_) (fun hc => ?_)
    · replace hw := hw.1 hc
      refine r_iconst (v := 0) C dX7_readSide_44 (by decide) ?_
      exact r_iret C hr dX7_readSide_45 hw
    · replace hw := hw.2 hc
      refine r_aload_n C dX7_readSide_34 0 rfl ?_
      refine r_getI C fl_RX7_55_3 hw.1 (fun _ _ _ => rfl) dX7_readSide_35 ?_
      replace hw := hw.2
      refine r_bipush (v := 11) C dX7_readSide_38 (by decide) ?_
      refine r_isub C dX7_readSide_40 ?_
      refine r_goto C dX7_readSide_41 45 (by decide) ?_
      exact r_iret C hr dX7_readSide_45 hw
def wb_X7_readSide_22 (ci : Nat)  (h : AH) (al0 : Nat)  (post : AH → Int32 → Prop) : Prop := (ob h al0 ci) ∧ wp_X7_fail ci h al0 1 (fun hv1  => wb_X7_readSide_27 ci  hv1 al0 post)
set_option maxRecDepth 100000 in
theorem tb_X7_readSide_22 {ci : Nat} (hci : ci = 2 ∨ ci = 3) {G : GG} {p : Program} {l : Launch} {e : Env} {R : Room} {s : State} {m : MethodId} {args : Array Value} {below : List Frame} {meth : Method} {c : Code} {n0 s0 : Nat} {post : AH → Int32 → Prop} (C : Cx G p R s m args meth c 1 cX7_readSide RX7 n0 s0 2 44) (hr : meth.sig.returnType = (some .int))   {h : AH} {al0 : Nat}  (hw : wb_X7_readSide_22 ci  h al0 post) : AW G p l e R s m args below meth c 1 (QM G (pI post) args s below n0 s0) 22 [(0, .ref (G.1 + al0))] [] h := by
  unfold wb_X7_readSide_22 at hw
  rcases hci with rfl | rfl
  · refine r_aload_n C dX7_readSide_22 0 rfl ?_
    refine r_iconst (v := 1) C dX7_readSide_23 (by decide) ?_
    have hob := hw.1
    replace hw := hw.2
    refine r_callV C (As := [.int 1]) (rest := []) (c_X7_fail (by decide) G h al0 1 _ hw) yl_X7_fail (gm3 (List.mem_of_getElem? (i := 156) rfl) rfl) (gm3 (List.mem_of_getElem? (i := 157) rfl) rfl) (ci := 2) rfl (by decide) (gm3 (List.mem_of_getElem? (i := 159) rfl) rfl) hob (by decide) rfl (Nat.le_of_ble_eq_true rfl) dX7_readSide_24 rfl (kV fun hv1  hw => ?_)
    refine r_sub [0] rfl ?_
    exact tb_X7_readSide_27 (by decide) C hr  hw
  · refine r_aload_n C dX7_readSide_22 0 rfl ?_
    refine r_iconst (v := 1) C dX7_readSide_23 (by decide) ?_
    have hob := hw.1
    replace hw := hw.2
    refine r_callV C (As := [.int 1]) (rest := []) (c_X7_fail (by decide) G h al0 1 _ hw) yl_X7_fail (gm3 (List.mem_of_getElem? (i := 156) rfl) rfl) (gm3 (List.mem_of_getElem? (i := 157) rfl) rfl) (ci := 3) rfl (by decide) (gm3 (List.mem_of_getElem? (i := 160) rfl) rfl) hob (by decide) rfl (Nat.le_of_ble_eq_true rfl) dX7_readSide_24 rfl (kV fun hv1  hw => ?_)
    refine r_sub [0] rfl ?_
    exact tb_X7_readSide_27 (by decide) C hr  hw
def wp_X7_readSide (ci : Nat) (h : AH) (a0 : Nat) (post : AH → Int32 → Prop) : Prop := (ob h a0 ci) ∧ wp_X7_advance ci h a0  (fun hv1  => (ob hv1 a0 ci) ∧ (((aI hv1 a0 9) < 11 → (wb_X7_readSide_22 ci  hv1 a0 post)) ∧ (¬ (aI hv1 a0 9) < 11 → ((ob hv1 a0 ci) ∧ (((aI hv1 a0 9) ≤ 14 → (wb_X7_readSide_27 ci  hv1 a0 post)) ∧ (¬ (aI hv1 a0 9) ≤ 14 → (wb_X7_readSide_22 ci  hv1 a0 post)))))))
set_option maxRecDepth 100000 in
theorem c_X7_readSide {ci : Nat} (hci : ci = 2 ∨ ci = 3) (G : GG) (h : AH) (a0 : Nat) (post : AH → Int32 → Prop) (hw : wp_X7_readSide ci h a0 post) : MC G yX7_readSide cX7_readSide 1 (some .int) 2 44 h [.ref (G.1 + a0)] (pI post) := by
  refine MC.of (lv := [(0, .ref (G.1 + a0))]) (by decide) (Nat.le_of_ble_eq_true rfl) rfl fun p l e R s m args below meth c C hr hnm => ?_
  unfold wp_X7_readSide at hw
  rcases hci with rfl | rfl
  · refine r_aload_n C dX7_readSide_0 0 rfl ?_
    have hob := hw.1
    replace hw := hw.2
    refine r_callV C (As := []) (rest := []) (c_X7_advance (by decide) G h a0  _ hw) yl_X7_advance (gm3 (List.mem_of_getElem? (i := 142) rfl) rfl) (gm3 (List.mem_of_getElem? (i := 143) rfl) rfl) (ci := 2) rfl (by decide) (gm3 (List.mem_of_getElem? (i := 145) rfl) rfl) hob (by decide) rfl (Nat.le_of_ble_eq_true rfl) dX7_readSide_1 rfl (kV fun hv1  hw => ?_)
    refine r_aload_n C dX7_readSide_4 0 rfl ?_
    refine r_getI C fl_RX7_55_2 hw.1 (fun _ _ _ => rfl) dX7_readSide_5 ?_
    replace hw := hw.2
    refine r_bipush (v := 11) C dX7_readSide_8 (by decide) ?_
    refine r_icmp_lt C dX7_readSide_10 22 (by decide) (fun hc => ?_) (fun hc => ?_)
    · replace hw := hw.1 hc
      refine r_sub [0] rfl ?_
      exact tb_X7_readSide_22 (by decide) C hr  hw
    · replace hw := hw.2 hc
      refine r_aload_n C dX7_readSide_13 0 rfl ?_
      refine r_getI C fl_RX7_55_2 hw.1 (fun _ _ _ => rfl) dX7_readSide_14 ?_
      replace hw := hw.2
      refine r_bipush (v := 14) C dX7_readSide_17 (by decide) ?_
      refine r_icmp_le C dX7_readSide_19 27 (by decide) (fun hc => ?_) (fun hc => ?_)
      · replace hw := hw.1 hc
        refine r_sub [0] rfl ?_
        exact tb_X7_readSide_27 (by decide) C hr  hw
      · replace hw := hw.2 hc
        refine r_sub [0] rfl ?_
        exact tb_X7_readSide_22 (by decide) C hr  hw
  · refine r_aload_n C dX7_readSide_0 0 rfl ?_
    have hob := hw.1
    replace hw := hw.2
    refine r_callV C (As := []) (rest := []) (c_X7_advance (by decide) G h a0  _ hw) yl_X7_advance (gm3 (List.mem_of_getElem? (i := 142) rfl) rfl) (gm3 (List.mem_of_getElem? (i := 143) rfl) rfl) (ci := 3) rfl (by decide) (gm3 (List.mem_of_getElem? (i := 146) rfl) rfl) hob (by decide) rfl (Nat.le_of_ble_eq_true rfl) dX7_readSide_1 rfl (kV fun hv1  hw => ?_)
    refine r_aload_n C dX7_readSide_4 0 rfl ?_
    refine r_getI C fl_RX7_55_3 hw.1 (fun _ _ _ => rfl) dX7_readSide_5 ?_
    replace hw := hw.2
    refine r_bipush (v := 11) C dX7_readSide_8 (by decide) ?_
    refine r_icmp_lt C dX7_readSide_10 22 (by decide) (fun hc => ?_) (fun hc => ?_)
    · replace hw := hw.1 hc
      refine r_sub [0] rfl ?_
      exact tb_X7_readSide_22 (by decide) C hr  hw
    · replace hw := hw.2 hc
      refine r_aload_n C dX7_readSide_13 0 rfl ?_
      refine r_getI C fl_RX7_55_3 hw.1 (fun _ _ _ => rfl) dX7_readSide_14 ?_
      replace hw := hw.2
      refine r_bipush (v := 14) C dX7_readSide_17 (by decide) ?_
      refine r_icmp_le C dX7_readSide_19 27 (by decide) (fun hc => ?_) (fun hc => ?_)
      · replace hw := hw.1 hc
        refine r_sub [0] rfl ?_
        exact tb_X7_readSide_27 (by decide) C hr  hw
      · replace hw := hw.2 hc
        refine r_sub [0] rfl ?_
        exact tb_X7_readSide_22 (by decide) C hr  hw
theorem dX2_readSun_0 : decode cX2_readSun 0 = .ok (.aload_n 0, 1) := by decide +kernel
theorem dX2_readSun_1 : decode cX2_readSun 1 = .ok (.invokevirtual 190, 3) := by decide +kernel
theorem dX2_readSun_4 : decode cX2_readSun 4 = .ok (.aload_n 0, 1) := by decide +kernel
theorem dX2_readSun_5 : decode cX2_readSun 5 = .ok (.aload_n 0, 1) := by decide +kernel
theorem dX2_readSun_6 : decode cX2_readSun 6 = .ok (.getfield 12, 3) := by decide +kernel
theorem dX2_readSun_9 : decode cX2_readSun 9 = .ok (.invokevirtual 164, 3) := by decide +kernel
theorem dX2_readSun_12 : decode cX2_readSun 12 = .ok (.istore_n 1, 1) := by decide +kernel
theorem dX2_readSun_13 : decode cX2_readSun 13 = .ok (.aload_n 0, 1) := by decide +kernel
theorem dX2_readSun_14 : decode cX2_readSun 14 = .ok (.iconst 2, 1) := by decide +kernel
theorem dX2_readSun_15 : decode cX2_readSun 15 = .ok (.iload_n 1, 1) := by decide +kernel
theorem dX2_readSun_16 : decode cX2_readSun 16 = .ok (.aload_n 0, 1) := by decide +kernel
theorem dX2_readSun_17 : decode cX2_readSun 17 = .ok (.invokevirtual 196, 3) := by decide +kernel
theorem dX2_readSun_20 : decode cX2_readSun 20 = .ok (.aload_n 0, 1) := by decide +kernel
theorem dX2_readSun_21 : decode cX2_readSun 21 = .ok (.iconst 1, 1) := by decide +kernel
theorem dX2_readSun_22 : decode cX2_readSun 22 = .ok (.bipush 99, 2) := by decide +kernel
theorem dX2_readSun_24 : decode cX2_readSun 24 = .ok (.invokevirtual 100, 3) := by decide +kernel
theorem dX2_readSun_27 : decode cX2_readSun 27 = .ok (.invokevirtual 193, 3) := by decide +kernel
theorem dX2_readSun_30 : decode cX2_readSun 30 = .ok (.return_, 1) := by decide +kernel
def wp_X2_readSun (h : AH) (a0 : Nat) (post : AH → Prop) : Prop := (ob h a0 2) ∧ wp_X2_countWant h a0  (fun hv1  => (ob hv1 a0 2) ∧ (∃ rv2, aP hv1 a0 12 = some rv2 ∧ ((ob hv1 a0 2) ∧ wp_X7_readRaft 2 hv1 a0 rv2 (fun hv3 iv4 => (ob hv3 a0 2) ∧ wp_X7_readSide 2 hv3 a0  (fun hv5 iv6 => (ob hv5 a0 2) ∧ wp_X7_readNumber 2 hv5 a0 1 99 (fun hv7 iv8 => (ob hv7 a0 2) ∧ wp_X2_addWant hv7 a0 2 iv4 iv6 iv8 (fun hv9  => post hv9)))))))
set_option maxRecDepth 100000 in
theorem c_X2_readSun (G : GG) (h : AH) (a0 : Nat) (post : AH → Prop) (hw : wp_X2_readSun h a0 post) : MC G yX2_readSun cX2_readSun 2 none 4 86 h [.ref (G.1 + a0)] (pV post) := by
  refine MC.of (lv := [(0, .ref (G.1 + a0))]) (by decide) (Nat.le_of_ble_eq_true rfl) rfl fun p l e R s m args below meth c C hr hnm => ?_
  unfold wp_X2_readSun at hw
  refine r_aload_n C dX2_readSun_0 0 rfl ?_
  have hob := hw.1
  replace hw := hw.2
  refine r_callV C (As := []) (rest := []) (c_X2_countWant G h a0  _ hw) yl_X2_countWant (gm4 (List.mem_of_getElem? (i := 28) rfl) rfl) (gm4 (List.mem_of_getElem? (i := 30) rfl) rfl) (ci := 2) rfl (by decide) (gsel (List.mem_of_getElem? (i := 11) rfl)) hob (by decide) rfl (Nat.le_of_ble_eq_true rfl) dX2_readSun_1 rfl (kV fun hv1  hw => ?_)
  refine r_aload_n C dX2_readSun_4 0 rfl ?_
  refine r_aload_n C dX2_readSun_5 0 rfl ?_
  have hob := hw.1
  obtain ⟨rv2, hp, hw⟩ := hw.2
  refine r_getP C fl_RX2_12_2 hob hp (fun _ _ _ => rfl) dX2_readSun_6 ?_
  have hob := hw.1
  replace hw := hw.2
  refine r_callU C (x := ⟨RX2, "readRaft", "(LRaftTown$Lagoon;)I"⟩) (As := [.ref (G.1 + rv2)]) (rest := []) (c_X7_readRaft (by decide) G hv1 a0 rv2 _ hw) yl_X7_readRaft (gm3 (List.mem_of_getElem? (i := 237) rfl) rfl) (gm4 (List.mem_of_getElem? (i := 1) rfl) rfl) (ci := 2) rfl (by decide) (gm3 (List.mem_of_getElem? (i := 238) rfl) rfl) (gm4 (List.mem_of_getElem? (i := 0) rfl) rfl) rfl hob (by decide) rfl (Nat.le_of_ble_eq_true rfl) dX2_readSun_9 rfl (kI fun hv3 iv4 hw => ?_)
  refine r_istore_n C dX2_readSun_12 [(1, .int iv4), (0, .ref (G.1 + a0))] (by decide) rfl ?_
  refine r_aload_n C dX2_readSun_13 1 rfl ?_
  refine r_iconst (v := 2) C dX2_readSun_14 (by decide) ?_
  refine r_iload_n C dX2_readSun_15 0 rfl ?_
  refine r_aload_n C dX2_readSun_16 1 rfl ?_
  have hob := hw.1
  replace hw := hw.2
  refine r_callU C (x := ⟨RX2, "readSide", "()I"⟩) (As := []) (rest := [.int iv4, .int 2, .ref (G.1 + a0)]) (c_X7_readSide (by decide) G hv3 a0  _ hw) yl_X7_readSide (gm4 (List.mem_of_getElem? (i := 44) rfl) rfl) (gm4 (List.mem_of_getElem? (i := 48) rfl) rfl) (ci := 2) rfl (by decide) (gm4 (List.mem_of_getElem? (i := 45) rfl) rfl) (gm4 (List.mem_of_getElem? (i := 47) rfl) rfl) rfl hob (by decide) rfl (Nat.le_of_ble_eq_true rfl) dX2_readSun_17 rfl (kI fun hv5 iv6 hw => ?_)
  refine r_aload_n C dX2_readSun_20 1 rfl ?_
  refine r_iconst (v := 1) C dX2_readSun_21 (by decide) ?_
  refine r_bipush (v := 99) C dX2_readSun_22 (by decide) ?_
  have hob := hw.1
  replace hw := hw.2
  refine r_callU C (x := ⟨RX2, "readNumber", "(II)I"⟩) (As := [.int 1, .int 99]) (rest := [.int iv6, .int iv4, .int 2, .ref (G.1 + a0)]) (c_X7_readNumber (by decide) G hv5 a0 1 99 _ hw) yl_X7_readNumber (gm3 (List.mem_of_getElem? (i := 182) rfl) rfl) (gm3 (List.mem_of_getElem? (i := 186) rfl) rfl) (ci := 2) rfl (by decide) (gm3 (List.mem_of_getElem? (i := 183) rfl) rfl) (gm3 (List.mem_of_getElem? (i := 185) rfl) rfl) rfl hob (by decide) rfl (Nat.le_of_ble_eq_true rfl) dX2_readSun_24 rfl (kI fun hv7 iv8 hw => ?_)
  have hob := hw.1
  replace hw := hw.2
  refine r_callV C (As := [.int 2, .int iv4, .int iv6, .int iv8]) (rest := []) (c_X2_addWant G hv7 a0 2 iv4 iv6 iv8 _ hw) yl_X2_addWant (gm4 (List.mem_of_getElem? (i := 32) rfl) rfl) (gm4 (List.mem_of_getElem? (i := 34) rfl) rfl) (ci := 2) rfl (by decide) (gsel (List.mem_of_getElem? (i := 12) rfl)) hob (by decide) rfl (Nat.le_of_ble_eq_true rfl) dX2_readSun_27 rfl (kV fun hv9  hw => ?_)
  exact r_vret C hr dX2_readSun_30 hw
theorem dX2_readLies_0 : decode cX2_readLies 0 = .ok (.aload_n 0, 1) := by decide +kernel
theorem dX2_readLies_1 : decode cX2_readLies 1 = .ok (.invokevirtual 190, 3) := by decide +kernel
theorem dX2_readLies_4 : decode cX2_readLies 4 = .ok (.aload_n 0, 1) := by decide +kernel
theorem dX2_readLies_5 : decode cX2_readLies 5 = .ok (.aload_n 0, 1) := by decide +kernel
theorem dX2_readLies_6 : decode cX2_readLies 6 = .ok (.getfield 12, 3) := by decide +kernel
theorem dX2_readLies_9 : decode cX2_readLies 9 = .ok (.invokevirtual 164, 3) := by decide +kernel
theorem dX2_readLies_12 : decode cX2_readLies 12 = .ok (.istore_n 1, 1) := by decide +kernel
theorem dX2_readLies_13 : decode cX2_readLies 13 = .ok (.aload_n 0, 1) := by decide +kernel
theorem dX2_readLies_14 : decode cX2_readLies 14 = .ok (.iconst 3, 1) := by decide +kernel
theorem dX2_readLies_15 : decode cX2_readLies 15 = .ok (.iload_n 1, 1) := by decide +kernel
theorem dX2_readLies_16 : decode cX2_readLies 16 = .ok (.aload_n 0, 1) := by decide +kernel
theorem dX2_readLies_17 : decode cX2_readLies 17 = .ok (.invokevirtual 134, 3) := by decide +kernel
theorem dX2_readLies_20 : decode cX2_readLies 20 = .ok (.aload_n 0, 1) := by decide +kernel
theorem dX2_readLies_21 : decode cX2_readLies 21 = .ok (.iconst 1, 1) := by decide +kernel
theorem dX2_readLies_22 : decode cX2_readLies 22 = .ok (.bipush 99, 2) := by decide +kernel
theorem dX2_readLies_24 : decode cX2_readLies 24 = .ok (.invokevirtual 100, 3) := by decide +kernel
theorem dX2_readLies_27 : decode cX2_readLies 27 = .ok (.invokevirtual 193, 3) := by decide +kernel
theorem dX2_readLies_30 : decode cX2_readLies 30 = .ok (.return_, 1) := by decide +kernel
def wp_X2_readLies (h : AH) (a0 : Nat) (post : AH → Prop) : Prop := (ob h a0 2) ∧ wp_X2_countWant h a0  (fun hv1  => (ob hv1 a0 2) ∧ (∃ rv2, aP hv1 a0 12 = some rv2 ∧ ((ob hv1 a0 2) ∧ wp_X7_readRaft 2 hv1 a0 rv2 (fun hv3 iv4 => (ob hv3 a0 2) ∧ wp_X2_readCell hv3 a0  (fun hv5 iv6 => (ob hv5 a0 2) ∧ wp_X7_readNumber 2 hv5 a0 1 99 (fun hv7 iv8 => (ob hv7 a0 2) ∧ wp_X2_addWant hv7 a0 3 iv4 iv6 iv8 (fun hv9  => post hv9)))))))
set_option maxRecDepth 100000 in
theorem c_X2_readLies (G : GG) (h : AH) (a0 : Nat) (post : AH → Prop) (hw : wp_X2_readLies h a0 post) : MC G yX2_readLies cX2_readLies 2 none 4 88 h [.ref (G.1 + a0)] (pV post) := by
  refine MC.of (lv := [(0, .ref (G.1 + a0))]) (by decide) (Nat.le_of_ble_eq_true rfl) rfl fun p l e R s m args below meth c C hr hnm => ?_
  unfold wp_X2_readLies at hw
  refine r_aload_n C dX2_readLies_0 0 rfl ?_
  have hob := hw.1
  replace hw := hw.2
  refine r_callV C (As := []) (rest := []) (c_X2_countWant G h a0  _ hw) yl_X2_countWant (gm4 (List.mem_of_getElem? (i := 28) rfl) rfl) (gm4 (List.mem_of_getElem? (i := 30) rfl) rfl) (ci := 2) rfl (by decide) (gsel (List.mem_of_getElem? (i := 11) rfl)) hob (by decide) rfl (Nat.le_of_ble_eq_true rfl) dX2_readLies_1 rfl (kV fun hv1  hw => ?_)
  refine r_aload_n C dX2_readLies_4 0 rfl ?_
  refine r_aload_n C dX2_readLies_5 0 rfl ?_
  have hob := hw.1
  obtain ⟨rv2, hp, hw⟩ := hw.2
  refine r_getP C fl_RX2_12_2 hob hp (fun _ _ _ => rfl) dX2_readLies_6 ?_
  have hob := hw.1
  replace hw := hw.2
  refine r_callU C (x := ⟨RX2, "readRaft", "(LRaftTown$Lagoon;)I"⟩) (As := [.ref (G.1 + rv2)]) (rest := []) (c_X7_readRaft (by decide) G hv1 a0 rv2 _ hw) yl_X7_readRaft (gm3 (List.mem_of_getElem? (i := 237) rfl) rfl) (gm4 (List.mem_of_getElem? (i := 1) rfl) rfl) (ci := 2) rfl (by decide) (gm3 (List.mem_of_getElem? (i := 238) rfl) rfl) (gm4 (List.mem_of_getElem? (i := 0) rfl) rfl) rfl hob (by decide) rfl (Nat.le_of_ble_eq_true rfl) dX2_readLies_9 rfl (kI fun hv3 iv4 hw => ?_)
  refine r_istore_n C dX2_readLies_12 [(1, .int iv4), (0, .ref (G.1 + a0))] (by decide) rfl ?_
  refine r_aload_n C dX2_readLies_13 1 rfl ?_
  refine r_iconst (v := 3) C dX2_readLies_14 (by decide) ?_
  refine r_iload_n C dX2_readLies_15 0 rfl ?_
  refine r_aload_n C dX2_readLies_16 1 rfl ?_
  have hob := hw.1
  replace hw := hw.2
  refine r_callV C (As := []) (rest := [.int iv4, .int 3, .ref (G.1 + a0)]) (c_X2_readCell G hv3 a0  _ hw) yl_X2_readCell (gm3 (List.mem_of_getElem? (i := 202) rfl) rfl) (gm3 (List.mem_of_getElem? (i := 204) rfl) rfl) (ci := 2) rfl (by decide) (gsel (List.mem_of_getElem? (i := 5) rfl)) hob (by decide) rfl (Nat.le_of_ble_eq_true rfl) dX2_readLies_17 rfl (kI fun hv5 iv6 hw => ?_)
  refine r_aload_n C dX2_readLies_20 1 rfl ?_
  refine r_iconst (v := 1) C dX2_readLies_21 (by decide) ?_
  refine r_bipush (v := 99) C dX2_readLies_22 (by decide) ?_
  have hob := hw.1
  replace hw := hw.2
  refine r_callU C (x := ⟨RX2, "readNumber", "(II)I"⟩) (As := [.int 1, .int 99]) (rest := [.int iv6, .int iv4, .int 3, .ref (G.1 + a0)]) (c_X7_readNumber (by decide) G hv5 a0 1 99 _ hw) yl_X7_readNumber (gm3 (List.mem_of_getElem? (i := 182) rfl) rfl) (gm3 (List.mem_of_getElem? (i := 186) rfl) rfl) (ci := 2) rfl (by decide) (gm3 (List.mem_of_getElem? (i := 183) rfl) rfl) (gm3 (List.mem_of_getElem? (i := 185) rfl) rfl) rfl hob (by decide) rfl (Nat.le_of_ble_eq_true rfl) dX2_readLies_24 rfl (kI fun hv7 iv8 hw => ?_)
  have hob := hw.1
  replace hw := hw.2
  refine r_callV C (As := [.int 3, .int iv4, .int iv6, .int iv8]) (rest := []) (c_X2_addWant G hv7 a0 3 iv4 iv6 iv8 _ hw) yl_X2_addWant (gm4 (List.mem_of_getElem? (i := 32) rfl) rfl) (gm4 (List.mem_of_getElem? (i := 34) rfl) rfl) (ci := 2) rfl (by decide) (gsel (List.mem_of_getElem? (i := 12) rfl)) hob (by decide) rfl (Nat.le_of_ble_eq_true rfl) dX2_readLies_27 rfl (kV fun hv9  hw => ?_)
  exact r_vret C hr dX2_readLies_30 hw
theorem dX2_readSquare_0 : decode cX2_readSquare 0 = .ok (.aload_n 0, 1) := by decide +kernel
theorem dX2_readSquare_1 : decode cX2_readSquare 1 = .ok (.getfield 12, 3) := by decide +kernel
theorem dX2_readSquare_4 : decode cX2_readSquare 4 = .ok (.getfield 199, 3) := by decide +kernel
theorem dX2_readSquare_7 : decode cX2_readSquare 7 = .ok (.lconst 0, 1) := by decide +kernel
theorem dX2_readSquare_8 : decode cX2_readSquare 8 = .ok (.lcmp, 1) := by decide +kernel
theorem dX2_readSquare_9 : decode cX2_readSquare 9 = .ok (.ifCond .eq 8, 3) := by decide +kernel
theorem dX2_readSquare_12 : decode cX2_readSquare 12 = .ok (.aload_n 0, 1) := by decide +kernel
theorem dX2_readSquare_13 : decode cX2_readSquare 13 = .ok (.iconst 3, 1) := by decide +kernel
theorem dX2_readSquare_14 : decode cX2_readSquare 14 = .ok (.invokevirtual 69, 3) := by decide +kernel
theorem dX2_readSquare_17 : decode cX2_readSquare 17 = .ok (.aload_n 0, 1) := by decide +kernel
theorem dX2_readSquare_18 : decode cX2_readSquare 18 = .ok (.invokevirtual 134, 3) := by decide +kernel
theorem dX2_readSquare_21 : decode cX2_readSquare 21 = .ok (.istore_n 1, 1) := by decide +kernel
theorem dX2_readSquare_22 : decode cX2_readSquare 22 = .ok (.aload_n 0, 1) := by decide +kernel
theorem dX2_readSquare_23 : decode cX2_readSquare 23 = .ok (.iconst 1, 1) := by decide +kernel
theorem dX2_readSquare_24 : decode cX2_readSquare 24 = .ok (.bipush 8, 2) := by decide +kernel
theorem dX2_readSquare_26 : decode cX2_readSquare 26 = .ok (.invokevirtual 100, 3) := by decide +kernel
theorem dX2_readSquare_29 : decode cX2_readSquare 29 = .ok (.istore_n 2, 1) := by decide +kernel
theorem dX2_readSquare_30 : decode cX2_readSquare 30 = .ok (.aload_n 0, 1) := by decide +kernel
theorem dX2_readSquare_31 : decode cX2_readSquare 31 = .ok (.iconst 1, 1) := by decide +kernel
theorem dX2_readSquare_32 : decode cX2_readSquare 32 = .ok (.bipush 8, 2) := by decide +kernel
theorem dX2_readSquare_34 : decode cX2_readSquare 34 = .ok (.invokevirtual 100, 3) := by decide +kernel
theorem dX2_readSquare_37 : decode cX2_readSquare 37 = .ok (.istore_n 3, 1) := by decide +kernel
theorem dX2_readSquare_38 : decode cX2_readSquare 38 = .ok (.iload_n 1, 1) := by decide +kernel
theorem dX2_readSquare_39 : decode cX2_readSquare 39 = .ok (.bipush 7, 2) := by decide +kernel
theorem dX2_readSquare_41 : decode cX2_readSquare 41 = .ok (.iand, 1) := by decide +kernel
theorem dX2_readSquare_42 : decode cX2_readSquare 42 = .ok (.iload_n 2, 1) := by decide +kernel
theorem dX2_readSquare_43 : decode cX2_readSquare 43 = .ok (.iadd, 1) := by decide +kernel
theorem dX2_readSquare_44 : decode cX2_readSquare 44 = .ok (.aload_n 0, 1) := by decide +kernel
theorem dX2_readSquare_45 : decode cX2_readSquare 45 = .ok (.getfield 12, 3) := by decide +kernel
theorem dX2_readSquare_48 : decode cX2_readSquare 48 = .ok (.getfield 87, 3) := by decide +kernel
theorem dX2_readSquare_51 : decode cX2_readSquare 51 = .ok (.if_icmp .gt 18, 3) := by decide +kernel
theorem dX2_readSquare_54 : decode cX2_readSquare 54 = .ok (.iload_n 1, 1) := by decide +kernel
theorem dX2_readSquare_55 : decode cX2_readSquare 55 = .ok (.iconst 3, 1) := by decide +kernel
theorem dX2_readSquare_56 : decode cX2_readSquare 56 = .ok (.ishr, 1) := by decide +kernel
theorem dX2_readSquare_57 : decode cX2_readSquare 57 = .ok (.iload_n 3, 1) := by decide +kernel
theorem dX2_readSquare_58 : decode cX2_readSquare 58 = .ok (.iadd, 1) := by decide +kernel
theorem dX2_readSquare_59 : decode cX2_readSquare 59 = .ok (.aload_n 0, 1) := by decide +kernel
theorem dX2_readSquare_60 : decode cX2_readSquare 60 = .ok (.getfield 12, 3) := by decide +kernel
theorem dX2_readSquare_63 : decode cX2_readSquare 63 = .ok (.getfield 75, 3) := by decide +kernel
theorem dX2_readSquare_66 : decode cX2_readSquare 66 = .ok (.if_icmp .le 8, 3) := by decide +kernel
theorem dX2_readSquare_69 : decode cX2_readSquare 69 = .ok (.aload_n 0, 1) := by decide +kernel
theorem dX2_readSquare_70 : decode cX2_readSquare 70 = .ok (.iconst 2, 1) := by decide +kernel
theorem dX2_readSquare_71 : decode cX2_readSquare 71 = .ok (.invokevirtual 69, 3) := by decide +kernel
theorem dX2_readSquare_74 : decode cX2_readSquare 74 = .ok (.aload_n 0, 1) := by decide +kernel
theorem dX2_readSquare_75 : decode cX2_readSquare 75 = .ok (.getfield 90, 3) := by decide +kernel
theorem dX2_readSquare_78 : decode cX2_readSquare 78 = .ok (.ifCond .ne 17, 3) := by decide +kernel
theorem dX2_readSquare_81 : decode cX2_readSquare 81 = .ok (.aload_n 0, 1) := by decide +kernel
theorem dX2_readSquare_82 : decode cX2_readSquare 82 = .ok (.getfield 12, 3) := by decide +kernel
theorem dX2_readSquare_85 : decode cX2_readSquare 85 = .ok (.iload_n 2, 1) := by decide +kernel
theorem dX2_readSquare_86 : decode cX2_readSquare 86 = .ok (.iload_n 3, 1) := by decide +kernel
theorem dX2_readSquare_87 : decode cX2_readSquare 87 = .ok (.invokestatic 203, 3) := by decide +kernel
theorem dX2_readSquare_90 : decode cX2_readSquare 90 = .ok (.iload_n 1, 1) := by decide +kernel
theorem dX2_readSquare_91 : decode cX2_readSquare 91 = .ok (.lshl, 1) := by decide +kernel
theorem dX2_readSquare_92 : decode cX2_readSquare 92 = .ok (.putfield 199, 3) := by decide +kernel
theorem dX2_readSquare_95 : decode cX2_readSquare 95 = .ok (.return_, 1) := by decide +kernel
def wb_X2_readSquare_74  (h : AH) (al0 : Nat) (xl1 : Int32) (xl2 : Int32) (xl3 : Int32)  (post : AH → Prop) : Prop := (ob h al0 2) ∧ ((¬ (aI h al0 10) = 0 → (post h)) ∧ ((aI h al0 10) = 0 → ((ob h al0 2) ∧ (∃ rv1, aP h al0 12 = some rv1 ∧ (wp_X11_blockOf h xl2 xl3 (fun hv2 jv3 => (ob hv2 rv1 1) ∧ (∀ hv4 : AH, hv4 = hJ hv2 rv1 13 (jv3 <<< (xl1.toInt64 &&& 63)) → (post hv4))))))))
set_option maxRecDepth 100000 in
theorem tb_X2_readSquare_74 {G : GG} {p : Program} {l : Launch} {e : Env} {R : Room} {s : State} {m : MethodId} {args : Array Value} {below : List Frame} {meth : Method} {c : Code} {n0 s0 : Nat} {post : AH → Prop} (C : Cx G p R s m args meth c 4 cX2_readSquare RX2 n0 s0 4 88) (hr : meth.sig.returnType = none)   {h : AH} {al0 : Nat} {xl1 : Int32} {xl2 : Int32} {xl3 : Int32}  (hw : wb_X2_readSquare_74  h al0 xl1 xl2 xl3 post) : AW G p l e R s m args below meth c 4 (QM G (pV post) args s below n0 s0) 74 [(0, .ref (G.1 + al0)), (1, .int xl1), (2, .int xl2), (3, .int xl3)] [] h := by
  unfold wb_X2_readSquare_74 at hw
  refine r_aload_n C dX2_readSquare_74 0 rfl ?_
  refine r_getI C fl_RX2_90_2 hw.1 (fun _ _ _ => rfl) dX2_readSquare_75 ?_
  replace hw := hw.2
  refine r_if_ne C dX2_readSquare_78 95 (by decide) (fun hc => ?_) (fun hc => ?_)
  · replace hw := hw.1 hc
    exact r_vret C hr dX2_readSquare_95 hw
  · replace hw := hw.2 hc
    refine r_aload_n C dX2_readSquare_81 0 rfl ?_
    have hob := hw.1
    obtain ⟨rv1, hp, hw⟩ := hw.2
    refine r_getP C fl_RX2_12_2 hob hp (fun _ _ _ => rfl) dX2_readSquare_82 ?_
    refine r_iload_n C dX2_readSquare_85 2 rfl ?_
    refine r_iload_n C dX2_readSquare_86 3 rfl ?_
    refine r_callSN C (As := [.int xl2, .int xl3]) (rest := [.ref (G.1 + rv1)]) (c_X11_blockOf G h xl2 xl3 _ hw) yl_X11_blockOf (List.mem_of_getElem? (i := 7) rfl) (gm3 (List.mem_of_getElem? (i := 227) rfl) rfl) (by decide) rfl (Nat.le_of_ble_eq_true rfl) dX2_readSquare_87 rfl (kJ fun hv2 jv3 hw => ?_)
    refine r_iload_n C dX2_readSquare_90 1 rfl ?_
    refine r_lshl C dX2_readSquare_91 ?_
    refine r_putJ C fp_RX2_199_1 hw.1 rfl dX2_readSquare_92 ?_
    replace hw := hw.2
    refine r_toph fun hv4 ehv4 => ?_
    replace hw := hw hv4 ehv4
    exact r_vret C hr dX2_readSquare_95 hw
def wb_X2_readSquare_69  (h : AH) (al0 : Nat) (xl1 : Int32) (xl2 : Int32) (xl3 : Int32)  (post : AH → Prop) : Prop := (ob h al0 2) ∧ wp_X7_fail 2 h al0 2 (fun hv1  => wb_X2_readSquare_74  hv1 al0 xl1 xl2 xl3 post)
set_option maxRecDepth 100000 in
theorem tb_X2_readSquare_69 {G : GG} {p : Program} {l : Launch} {e : Env} {R : Room} {s : State} {m : MethodId} {args : Array Value} {below : List Frame} {meth : Method} {c : Code} {n0 s0 : Nat} {post : AH → Prop} (C : Cx G p R s m args meth c 4 cX2_readSquare RX2 n0 s0 4 88) (hr : meth.sig.returnType = none)   {h : AH} {al0 : Nat} {xl1 : Int32} {xl2 : Int32} {xl3 : Int32}  (hw : wb_X2_readSquare_69  h al0 xl1 xl2 xl3 post) : AW G p l e R s m args below meth c 4 (QM G (pV post) args s below n0 s0) 69 [(0, .ref (G.1 + al0)), (1, .int xl1), (2, .int xl2), (3, .int xl3)] [] h := by
  unfold wb_X2_readSquare_69 at hw
  refine r_aload_n C dX2_readSquare_69 0 rfl ?_
  refine r_iconst (v := 2) C dX2_readSquare_70 (by decide) ?_
  have hob := hw.1
  replace hw := hw.2
  refine r_callU C (x := ⟨RX2, "fail", "(I)V"⟩) (As := [.int 2]) (rest := []) (c_X7_fail (by decide) G h al0 2 _ hw) yl_X7_fail (gm3 (List.mem_of_getElem? (i := 166) rfl) rfl) (gm3 (List.mem_of_getElem? (i := 157) rfl) rfl) (ci := 2) rfl (by decide) (gm3 (List.mem_of_getElem? (i := 167) rfl) rfl) (gm3 (List.mem_of_getElem? (i := 169) rfl) rfl) rfl hob (by decide) rfl (Nat.le_of_ble_eq_true rfl) dX2_readSquare_71 rfl (kV fun hv1  hw => ?_)
  refine r_sub [0, 1, 2, 3] rfl ?_
  exact tb_X2_readSquare_74 C hr  hw
def wb_X2_readSquare_17  (h : AH) (al0 : Nat)  (post : AH → Prop) : Prop := (ob h al0 2) ∧ wp_X2_readCell h al0  (fun hv1 iv2 => (ob hv1 al0 2) ∧ wp_X7_readNumber 2 hv1 al0 1 8 (fun hv3 iv4 => (ob hv3 al0 2) ∧ wp_X7_readNumber 2 hv3 al0 1 8 (fun hv5 iv6 => (ob hv5 al0 2) ∧ (∃ rv7, aP hv5 al0 12 = some rv7 ∧ ((ob hv5 rv7 1) ∧ (((aI hv5 rv7 0) < ((iv2 &&& (7 : Int32)) + iv4) → (wb_X2_readSquare_69  hv5 al0 iv2 iv4 iv6 post)) ∧ (¬ (aI hv5 rv7 0) < ((iv2 &&& (7 : Int32)) + iv4) → ((ob hv5 al0 2) ∧ (∃ rv8, aP hv5 al0 12 = some rv8 ∧ ((ob hv5 rv8 1) ∧ ((((iv2 >>> ((3 : Int32) &&& 31)) + iv6) ≤ (aI hv5 rv8 1) → (wb_X2_readSquare_74  hv5 al0 iv2 iv4 iv6 post)) ∧ (¬ ((iv2 >>> ((3 : Int32) &&& 31)) + iv6) ≤ (aI hv5 rv8 1) → (wb_X2_readSquare_69  hv5 al0 iv2 iv4 iv6 post)))))))))))))
set_option maxRecDepth 100000 in
theorem tb_X2_readSquare_17 {G : GG} {p : Program} {l : Launch} {e : Env} {R : Room} {s : State} {m : MethodId} {args : Array Value} {below : List Frame} {meth : Method} {c : Code} {n0 s0 : Nat} {post : AH → Prop} (C : Cx G p R s m args meth c 4 cX2_readSquare RX2 n0 s0 4 88) (hr : meth.sig.returnType = none)   {h : AH} {al0 : Nat}  (hw : wb_X2_readSquare_17  h al0 post) : AW G p l e R s m args below meth c 4 (QM G (pV post) args s below n0 s0) 17 [(0, .ref (G.1 + al0))] [] h := by
  unfold wb_X2_readSquare_17 at hw
  refine r_aload_n C dX2_readSquare_17 0 rfl ?_
  have hob := hw.1
  replace hw := hw.2
  refine r_callV C (As := []) (rest := []) (c_X2_readCell G h al0  _ hw) yl_X2_readCell (gm3 (List.mem_of_getElem? (i := 202) rfl) rfl) (gm3 (List.mem_of_getElem? (i := 204) rfl) rfl) (ci := 2) rfl (by decide) (gsel (List.mem_of_getElem? (i := 5) rfl)) hob (by decide) rfl (Nat.le_of_ble_eq_true rfl) dX2_readSquare_18 rfl (kI fun hv1 iv2 hw => ?_)
  refine r_istore_n C dX2_readSquare_21 [(1, .int iv2), (0, .ref (G.1 + al0))] (by decide) rfl ?_
  refine r_aload_n C dX2_readSquare_22 1 rfl ?_
  refine r_iconst (v := 1) C dX2_readSquare_23 (by decide) ?_
  refine r_bipush (v := 8) C dX2_readSquare_24 (by decide) ?_
  have hob := hw.1
  replace hw := hw.2
  refine r_callU C (x := ⟨RX2, "readNumber", "(II)I"⟩) (As := [.int 1, .int 8]) (rest := []) (c_X7_readNumber (by decide) G hv1 al0 1 8 _ hw) yl_X7_readNumber (gm3 (List.mem_of_getElem? (i := 182) rfl) rfl) (gm3 (List.mem_of_getElem? (i := 186) rfl) rfl) (ci := 2) rfl (by decide) (gm3 (List.mem_of_getElem? (i := 183) rfl) rfl) (gm3 (List.mem_of_getElem? (i := 185) rfl) rfl) rfl hob (by decide) rfl (Nat.le_of_ble_eq_true rfl) dX2_readSquare_26 rfl (kI fun hv3 iv4 hw => ?_)
  refine r_istore_n C dX2_readSquare_29 [(2, .int iv4), (1, .int iv2), (0, .ref (G.1 + al0))] (by decide) rfl ?_
  refine r_aload_n C dX2_readSquare_30 2 rfl ?_
  refine r_iconst (v := 1) C dX2_readSquare_31 (by decide) ?_
  refine r_bipush (v := 8) C dX2_readSquare_32 (by decide) ?_
  have hob := hw.1
  replace hw := hw.2
  refine r_callU C (x := ⟨RX2, "readNumber", "(II)I"⟩) (As := [.int 1, .int 8]) (rest := []) (c_X7_readNumber (by decide) G hv3 al0 1 8 _ hw) yl_X7_readNumber (gm3 (List.mem_of_getElem? (i := 182) rfl) rfl) (gm3 (List.mem_of_getElem? (i := 186) rfl) rfl) (ci := 2) rfl (by decide) (gm3 (List.mem_of_getElem? (i := 183) rfl) rfl) (gm3 (List.mem_of_getElem? (i := 185) rfl) rfl) rfl hob (by decide) rfl (Nat.le_of_ble_eq_true rfl) dX2_readSquare_34 rfl (kI fun hv5 iv6 hw => ?_)
  refine r_istore_n C dX2_readSquare_37 [(3, .int iv6), (2, .int iv4), (1, .int iv2), (0, .ref (G.1 + al0))] (by decide) rfl ?_
  refine r_iload_n C dX2_readSquare_38 2 rfl ?_
  refine r_bipush (v := 7) C dX2_readSquare_39 (by decide) ?_
  refine r_iand C dX2_readSquare_41 ?_
  refine r_iload_n C dX2_readSquare_42 1 rfl ?_
  refine r_iadd C dX2_readSquare_43 ?_
  refine r_aload_n C dX2_readSquare_44 3 rfl ?_
  have hob := hw.1
  obtain ⟨rv7, hp, hw⟩ := hw.2
  refine r_getP C fl_RX2_12_2 hob hp (fun _ _ _ => rfl) dX2_readSquare_45 ?_
  refine r_getI C fl_RX2_87_1 hw.1 (fun _ _ _ => rfl) dX2_readSquare_48 ?_
  replace hw := hw.2
  refine r_icmp_gt C dX2_readSquare_51 69 (by decide) (fun hc => ?_) (fun hc => ?_)
  · replace hw := hw.1 hc
    refine r_sub [3, 2, 1, 0] rfl ?_
    exact tb_X2_readSquare_69 C hr  hw
  · replace hw := hw.2 hc
    refine r_iload_n C dX2_readSquare_54 2 rfl ?_
    refine r_iconst (v := 3) C dX2_readSquare_55 (by decide) ?_
    refine r_ishr C dX2_readSquare_56 ?_
    refine r_iload_n C dX2_readSquare_57 0 rfl ?_
    refine r_iadd C dX2_readSquare_58 ?_
    refine r_aload_n C dX2_readSquare_59 3 rfl ?_
    have hob := hw.1
    obtain ⟨rv8, hp, hw⟩ := hw.2
    refine r_getP C fl_RX2_12_2 hob hp (fun _ _ _ => rfl) dX2_readSquare_60 ?_
    refine r_getI C fl_RX2_75_1 hw.1 (fun _ _ _ => rfl) dX2_readSquare_63 ?_
    replace hw := hw.2
    refine r_icmp_le C dX2_readSquare_66 74 (by decide) (fun hc => ?_) (fun hc => ?_)
    · replace hw := hw.1 hc
      refine r_sub [3, 2, 1, 0] rfl ?_
      exact tb_X2_readSquare_74 C hr  hw
    · replace hw := hw.2 hc
      refine r_sub [3, 2, 1, 0] rfl ?_
      exact tb_X2_readSquare_69 C hr  hw
def wp_X2_readSquare (h : AH) (a0 : Nat) (post : AH → Prop) : Prop := (ob h a0 2) ∧ (∃ rv1, aP h a0 12 = some rv1 ∧ ((ob h rv1 1) ∧ (((lg_cmp (aJ h rv1 13) 0) = 0 → (wb_X2_readSquare_17  h a0 post)) ∧ (¬ (lg_cmp (aJ h rv1 13) 0) = 0 → ((ob h a0 2) ∧ wp_X7_fail 2 h a0 3 (fun hv2  => wb_X2_readSquare_17  hv2 a0 post))))))
set_option maxRecDepth 100000 in
theorem c_X2_readSquare (G : GG) (h : AH) (a0 : Nat) (post : AH → Prop) (hw : wp_X2_readSquare h a0 post) : MC G yX2_readSquare cX2_readSquare 4 none 4 88 h [.ref (G.1 + a0)] (pV post) := by
  refine MC.of (lv := [(0, .ref (G.1 + a0))]) (by decide) (Nat.le_of_ble_eq_true rfl) rfl fun p l e R s m args below meth c C hr hnm => ?_
  unfold wp_X2_readSquare at hw
  refine r_aload_n C dX2_readSquare_0 0 rfl ?_
  have hob := hw.1
  obtain ⟨rv1, hp, hw⟩ := hw.2
  refine r_getP C fl_RX2_12_2 hob hp (fun _ _ _ => rfl) dX2_readSquare_1 ?_
  refine r_getJ C fl_RX2_199_1 hw.1 (fun _ _ _ => rfl) dX2_readSquare_4 ?_
  replace hw := hw.2
  refine r_lconst (v := 0) C dX2_readSquare_7 (by decide) ?_
  refine r_lcmp C dX2_readSquare_8 ?_
  refine r_if_eq C dX2_readSquare_9 17 (by decide) (fun hc => ?_) (fun hc => ?_)
  · replace hw := hw.1 hc
    refine r_sub [0] rfl ?_
    exact tb_X2_readSquare_17 C hr  hw
  · replace hw := hw.2 hc
    refine r_aload_n C dX2_readSquare_12 0 rfl ?_
    refine r_iconst (v := 3) C dX2_readSquare_13 (by decide) ?_
    have hob := hw.1
    replace hw := hw.2
    refine r_callU C (x := ⟨RX2, "fail", "(I)V"⟩) (As := [.int 3]) (rest := []) (c_X7_fail (by decide) G h a0 3 _ hw) yl_X7_fail (gm3 (List.mem_of_getElem? (i := 166) rfl) rfl) (gm3 (List.mem_of_getElem? (i := 157) rfl) rfl) (ci := 2) rfl (by decide) (gm3 (List.mem_of_getElem? (i := 167) rfl) rfl) (gm3 (List.mem_of_getElem? (i := 169) rfl) rfl) rfl hob (by decide) rfl (Nat.le_of_ble_eq_true rfl) dX2_readSquare_14 rfl (kV fun hv2  hw => ?_)
    refine r_sub [0] rfl ?_
    exact tb_X2_readSquare_17 C hr  hw
theorem dX7_readStop_0 : decode cX7_readStop 0 = .ok (.aload_n 0, 1) := by decide +kernel
theorem dX7_readStop_1 : decode cX7_readStop 1 = .ok (.invokevirtual 74, 3) := by decide +kernel
theorem dX7_readStop_4 : decode cX7_readStop 4 = .ok (.aload_n 0, 1) := by decide +kernel
theorem dX7_readStop_5 : decode cX7_readStop 5 = .ok (.getfield 61, 3) := by decide +kernel
theorem dX7_readStop_8 : decode cX7_readStop 8 = .ok (.iconst 3, 1) := by decide +kernel
theorem dX7_readStop_9 : decode cX7_readStop 9 = .ok (.if_icmp .eq 8, 3) := by decide +kernel
theorem dX7_readStop_12 : decode cX7_readStop 12 = .ok (.aload_n 0, 1) := by decide +kernel
theorem dX7_readStop_13 : decode cX7_readStop 13 = .ok (.iconst 1, 1) := by decide +kernel
theorem dX7_readStop_14 : decode cX7_readStop 14 = .ok (.invokevirtual 77, 3) := by decide +kernel
theorem dX7_readStop_17 : decode cX7_readStop 17 = .ok (.return_, 1) := by decide +kernel
def wp_X7_readStop (ci : Nat) (h : AH) (a0 : Nat) (post : AH → Prop) : Prop := (ob h a0 ci) ∧ wp_X7_advance ci h a0  (fun hv1  => (ob hv1 a0 ci) ∧ (((aI hv1 a0 6) = 3 → (post hv1)) ∧ (¬ (aI hv1 a0 6) = 3 → ((ob hv1 a0 ci) ∧ wp_X7_fail ci hv1 a0 1 (fun hv2  => post hv2)))))
set_option maxRecDepth 100000 in
theorem c_X7_readStop {ci : Nat} (hci : ci = 2 ∨ ci = 3) (G : GG) (h : AH) (a0 : Nat) (post : AH → Prop) (hw : wp_X7_readStop ci h a0 post) : MC G yX7_readStop cX7_readStop 1 none 2 44 h [.ref (G.1 + a0)] (pV post) := by
  refine MC.of (lv := [(0, .ref (G.1 + a0))]) (by decide) (Nat.le_of_ble_eq_true rfl) rfl fun p l e R s m args below meth c C hr hnm => ?_
  unfold wp_X7_readStop at hw
  rcases hci with rfl | rfl
  · refine r_aload_n C dX7_readStop_0 0 rfl ?_
    have hob := hw.1
    replace hw := hw.2
    refine r_callV C (As := []) (rest := []) (c_X7_advance (by decide) G h a0  _ hw) yl_X7_advance (gm3 (List.mem_of_getElem? (i := 142) rfl) rfl) (gm3 (List.mem_of_getElem? (i := 143) rfl) rfl) (ci := 2) rfl (by decide) (gm3 (List.mem_of_getElem? (i := 145) rfl) rfl) hob (by decide) rfl (Nat.le_of_ble_eq_true rfl) dX7_readStop_1 rfl (kV fun hv1  hw => ?_)
    refine r_aload_n C dX7_readStop_4 0 rfl ?_
    refine r_getI C fl_RX7_61_2 hw.1 (fun _ _ _ => rfl) dX7_readStop_5 ?_
    replace hw := hw.2
    refine r_iconst (v := 3) C dX7_readStop_8 (by decide) ?_
    refine r_icmp_eq C dX7_readStop_9 17 (by decide) (fun hc => ?_) (fun hc => ?_)
    · replace hw := hw.1 hc
      exact r_vret C hr dX7_readStop_17 hw
    · replace hw := hw.2 hc
      refine r_aload_n C dX7_readStop_12 0 rfl ?_
      refine r_iconst (v := 1) C dX7_readStop_13 (by decide) ?_
      have hob := hw.1
      replace hw := hw.2
      refine r_callV C (As := [.int 1]) (rest := []) (c_X7_fail (by decide) G hv1 a0 1 _ hw) yl_X7_fail (gm3 (List.mem_of_getElem? (i := 156) rfl) rfl) (gm3 (List.mem_of_getElem? (i := 157) rfl) rfl) (ci := 2) rfl (by decide) (gm3 (List.mem_of_getElem? (i := 159) rfl) rfl) hob (by decide) rfl (Nat.le_of_ble_eq_true rfl) dX7_readStop_14 rfl (kV fun hv2  hw => ?_)
      exact r_vret C hr dX7_readStop_17 hw
  · refine r_aload_n C dX7_readStop_0 0 rfl ?_
    have hob := hw.1
    replace hw := hw.2
    refine r_callV C (As := []) (rest := []) (c_X7_advance (by decide) G h a0  _ hw) yl_X7_advance (gm3 (List.mem_of_getElem? (i := 142) rfl) rfl) (gm3 (List.mem_of_getElem? (i := 143) rfl) rfl) (ci := 3) rfl (by decide) (gm3 (List.mem_of_getElem? (i := 146) rfl) rfl) hob (by decide) rfl (Nat.le_of_ble_eq_true rfl) dX7_readStop_1 rfl (kV fun hv1  hw => ?_)
    refine r_aload_n C dX7_readStop_4 0 rfl ?_
    refine r_getI C fl_RX7_61_3 hw.1 (fun _ _ _ => rfl) dX7_readStop_5 ?_
    replace hw := hw.2
    refine r_iconst (v := 3) C dX7_readStop_8 (by decide) ?_
    refine r_icmp_eq C dX7_readStop_9 17 (by decide) (fun hc => ?_) (fun hc => ?_)
    · replace hw := hw.1 hc
      exact r_vret C hr dX7_readStop_17 hw
    · replace hw := hw.2 hc
      refine r_aload_n C dX7_readStop_12 0 rfl ?_
      refine r_iconst (v := 1) C dX7_readStop_13 (by decide) ?_
      have hob := hw.1
      replace hw := hw.2
      refine r_callV C (As := [.int 1]) (rest := []) (c_X7_fail (by decide) G hv1 a0 1 _ hw) yl_X7_fail (gm3 (List.mem_of_getElem? (i := 156) rfl) rfl) (gm3 (List.mem_of_getElem? (i := 157) rfl) rfl) (ci := 3) rfl (by decide) (gm3 (List.mem_of_getElem? (i := 160) rfl) rfl) hob (by decide) rfl (Nat.le_of_ble_eq_true rfl) dX7_readStop_14 rfl (kV fun hv2  hw => ?_)
      exact r_vret C hr dX7_readStop_17 hw
theorem dX2_readLines_0 : decode cX2_readLines 0 = .ok (.aload_n 0, 1) := by decide +kernel
theorem dX2_readLines_1 : decode cX2_readLines 1 = .ok (.aload_n 1, 1) := by decide +kernel
theorem dX2_readLines_2 : decode cX2_readLines 2 = .ok (.iload_n 2, 1) := by decide +kernel
theorem dX2_readLines_3 : decode cX2_readLines 3 = .ok (.sipush 900, 3) := by decide +kernel
theorem dX2_readLines_6 : decode cX2_readLines 6 = .ok (.invokevirtual 18, 3) := by decide +kernel
theorem dX2_readLines_9 : decode cX2_readLines 9 = .ok (.aload_n 0, 1) := by decide +kernel
theorem dX2_readLines_10 : decode cX2_readLines 10 = .ok (.getfield 12, 3) := by decide +kernel
theorem dX2_readLines_13 : decode cX2_readLines 13 = .ok (.invokevirtual 22, 3) := by decide +kernel
theorem dX2_readLines_16 : decode cX2_readLines 16 = .ok (.aload_n 0, 1) := by decide +kernel
theorem dX2_readLines_17 : decode cX2_readLines 17 = .ok (.iconst 0, 1) := by decide +kernel
theorem dX2_readLines_18 : decode cX2_readLines 18 = .ok (.putfield 25, 3) := by decide +kernel
theorem dX2_readLines_21 : decode cX2_readLines 21 = .ok (.iconst 0, 1) := by decide +kernel
theorem dX2_readLines_22 : decode cX2_readLines 22 = .ok (.istore_n 3, 1) := by decide +kernel
theorem dX2_readLines_23 : decode cX2_readLines 23 = .ok (.iload_n 3, 1) := by decide +kernel
theorem dX2_readLines_24 : decode cX2_readLines 24 = .ok (.sipush 900, 3) := by decide +kernel
theorem dX2_readLines_27 : decode cX2_readLines 27 = .ok (.if_icmp .ge 167, 3) := by decide +kernel
theorem dX2_readLines_30 : decode cX2_readLines 30 = .ok (.aload_n 0, 1) := by decide +kernel
theorem dX2_readLines_31 : decode cX2_readLines 31 = .ok (.invokevirtual 29, 3) := by decide +kernel
theorem dX2_readLines_34 : decode cX2_readLines 34 = .ok (.ifCond .eq 160, 3) := by decide +kernel
theorem dX2_readLines_37 : decode cX2_readLines 37 = .ok (.aload_n 0, 1) := by decide +kernel
theorem dX2_readLines_38 : decode cX2_readLines 38 = .ok (.getfield 33, 3) := by decide +kernel
theorem dX2_readLines_41 : decode cX2_readLines 41 = .ok (.tableswitch 138 0 10 #[59, 66, 73, 80, 87, 94, 101, 109, 117, 124, 131], 59) := by decide +kernel
theorem dX2_readLines_100 : decode cX2_readLines 100 = .ok (.aload_n 0, 1) := by decide +kernel
theorem dX2_readLines_101 : decode cX2_readLines 101 = .ok (.invokevirtual 36, 3) := by decide +kernel
theorem dX2_readLines_104 : decode cX2_readLines 104 = .ok (.goto 80, 3) := by decide +kernel
theorem dX2_readLines_107 : decode cX2_readLines 107 = .ok (.aload_n 0, 1) := by decide +kernel
theorem dX2_readLines_108 : decode cX2_readLines 108 = .ok (.invokevirtual 39, 3) := by decide +kernel
theorem dX2_readLines_111 : decode cX2_readLines 111 = .ok (.goto 73, 3) := by decide +kernel
theorem dX2_readLines_114 : decode cX2_readLines 114 = .ok (.aload_n 0, 1) := by decide +kernel
theorem dX2_readLines_115 : decode cX2_readLines 115 = .ok (.invokevirtual 42, 3) := by decide +kernel
theorem dX2_readLines_118 : decode cX2_readLines 118 = .ok (.goto 66, 3) := by decide +kernel
theorem dX2_readLines_121 : decode cX2_readLines 121 = .ok (.aload_n 0, 1) := by decide +kernel
theorem dX2_readLines_122 : decode cX2_readLines 122 = .ok (.invokevirtual 45, 3) := by decide +kernel
theorem dX2_readLines_125 : decode cX2_readLines 125 = .ok (.goto 59, 3) := by decide +kernel
theorem dX2_readLines_128 : decode cX2_readLines 128 = .ok (.aload_n 0, 1) := by decide +kernel
theorem dX2_readLines_129 : decode cX2_readLines 129 = .ok (.invokevirtual 48, 3) := by decide +kernel
theorem dX2_readLines_132 : decode cX2_readLines 132 = .ok (.goto 52, 3) := by decide +kernel
theorem dX2_readLines_135 : decode cX2_readLines 135 = .ok (.aload_n 0, 1) := by decide +kernel
theorem dX2_readLines_136 : decode cX2_readLines 136 = .ok (.invokevirtual 51, 3) := by decide +kernel
theorem dX2_readLines_139 : decode cX2_readLines 139 = .ok (.goto 45, 3) := by decide +kernel
theorem dX2_readLines_142 : decode cX2_readLines 142 = .ok (.aload_n 0, 1) := by decide +kernel
theorem dX2_readLines_143 : decode cX2_readLines 143 = .ok (.iconst 0, 1) := by decide +kernel
theorem dX2_readLines_144 : decode cX2_readLines 144 = .ok (.invokevirtual 56, 3) := by decide +kernel
theorem dX2_readLines_147 : decode cX2_readLines 147 = .ok (.goto 37, 3) := by decide +kernel
theorem dX2_readLines_150 : decode cX2_readLines 150 = .ok (.aload_n 0, 1) := by decide +kernel
theorem dX2_readLines_151 : decode cX2_readLines 151 = .ok (.iconst 1, 1) := by decide +kernel
theorem dX2_readLines_152 : decode cX2_readLines 152 = .ok (.invokevirtual 56, 3) := by decide +kernel
theorem dX2_readLines_155 : decode cX2_readLines 155 = .ok (.goto 29, 3) := by decide +kernel
theorem dX2_readLines_158 : decode cX2_readLines 158 = .ok (.aload_n 0, 1) := by decide +kernel
theorem dX2_readLines_159 : decode cX2_readLines 159 = .ok (.invokevirtual 60, 3) := by decide +kernel
theorem dX2_readLines_162 : decode cX2_readLines 162 = .ok (.goto 22, 3) := by decide +kernel
theorem dX2_readLines_165 : decode cX2_readLines 165 = .ok (.aload_n 0, 1) := by decide +kernel
theorem dX2_readLines_166 : decode cX2_readLines 166 = .ok (.invokevirtual 63, 3) := by decide +kernel
theorem dX2_readLines_169 : decode cX2_readLines 169 = .ok (.goto 15, 3) := by decide +kernel
theorem dX2_readLines_172 : decode cX2_readLines 172 = .ok (.aload_n 0, 1) := by decide +kernel
theorem dX2_readLines_173 : decode cX2_readLines 173 = .ok (.invokevirtual 66, 3) := by decide +kernel
theorem dX2_readLines_176 : decode cX2_readLines 176 = .ok (.goto 8, 3) := by decide +kernel
theorem dX2_readLines_179 : decode cX2_readLines 179 = .ok (.aload_n 0, 1) := by decide +kernel
theorem dX2_readLines_180 : decode cX2_readLines 180 = .ok (.iconst 1, 1) := by decide +kernel
theorem dX2_readLines_181 : decode cX2_readLines 181 = .ok (.invokevirtual 69, 3) := by decide +kernel
theorem dX2_readLines_184 : decode cX2_readLines 184 = .ok (.aload_n 0, 1) := by decide +kernel
theorem dX2_readLines_185 : decode cX2_readLines 185 = .ok (.invokevirtual 72, 3) := by decide +kernel
theorem dX2_readLines_188 : decode cX2_readLines 188 = .ok (.iinc 3 1, 3) := by decide +kernel
theorem dX2_readLines_191 : decode cX2_readLines 191 = .ok (.goto (-168), 3) := by decide +kernel
theorem dX2_readLines_194 : decode cX2_readLines 194 = .ok (.iload_n 3, 1) := by decide +kernel
theorem dX2_readLines_195 : decode cX2_readLines 195 = .ok (.ireturn, 1) := by decide +kernel
def wb_X2_readLines_184 (K23 : AH → Nat → Int32 → Prop) (h : AH) (al0 : Nat) (xl3 : Int32)  (post : AH → Int32 → Prop) : Prop := (ob h al0 2) ∧ wp_X7_readStop 2 h al0  (fun hv1  => ∀ iv2 : Int32, iv2 = xl3 + 1 → (K23 hv1 al0 iv2))
set_option maxRecDepth 100000 in
theorem tb_X2_readLines_184 {G : GG} {p : Program} {l : Launch} {e : Env} {R : Room} {s : State} {m : MethodId} {args : Array Value} {below : List Frame} {meth : Method} {c : Code} {n0 s0 : Nat} {post : AH → Int32 → Prop} (C : Cx G p R s m args meth c 4 cX2_readLines RX2 n0 s0 5 111) (hr : meth.sig.returnType = (some .int)) {K23 : AH → Nat → Int32 → Prop} (hK23 : ∀ (h : AH) (al0 : Nat) (xl3 : Int32), K23 h al0 xl3 → AW G p l e R s m args below meth c 4 (QM G (pI post) args s below n0 s0) 23 [(0, .ref (G.1 + al0)), (3, .int xl3)] [] h) {h : AH} {al0 : Nat} {xl3 : Int32}  (hw : wb_X2_readLines_184 K23 h al0 xl3 post) : AW G p l e R s m args below meth c 4 (QM G (pI post) args s below n0 s0) 184 [(0, .ref (G.1 + al0)), (3, .int xl3)] [] h := by
  unfold wb_X2_readLines_184 at hw
  refine r_aload_n C dX2_readLines_184 0 rfl ?_
  have hob := hw.1
  replace hw := hw.2
  refine r_callU C (x := ⟨RX2, "readStop", "()V"⟩) (As := []) (rest := []) (c_X7_readStop (by decide) G h al0  _ hw) yl_X7_readStop (gm4 (List.mem_of_getElem? (i := 59) rfl) rfl) (gm4 (List.mem_of_getElem? (i := 63) rfl) rfl) (ci := 2) rfl (by decide) (gm4 (List.mem_of_getElem? (i := 60) rfl) rfl) (gm4 (List.mem_of_getElem? (i := 62) rfl) rfl) rfl hob (by decide) rfl (Nat.le_of_ble_eq_true rfl) dX2_readLines_185 rfl (kV fun hv1  hw => ?_)
  obtain ⟨iv2, eiv2⟩ : ∃ q : Int32, q = xl3 + 1 := ⟨_, rfl⟩
  replace hw := hw iv2 eiv2
  refine r_iinc C dX2_readLines_188 1 rfl (by rw [eiv2]; rfl) [(3, .int iv2), (0, .ref (G.1 + al0))] (by decide) rfl ?_
  refine r_goto C dX2_readLines_191 23 (by decide) ?_
  refine r_sub [1, 0] rfl ?_
  exact hK23 _ _ _ hw
def wb_X2_readLines_23 (K23 : AH → Nat → Int32 → Prop) (h : AH) (al0 : Nat) (xl3 : Int32)  (post : AH → Int32 → Prop) : Prop := (900 ≤ xl3 → (post h xl3)) ∧ (¬ 900 ≤ xl3 → ((ob h al0 2) ∧ wp_X7_goesOn 2 h al0  (fun hv1 iv2 => (iv2 = 0 → (post hv1 xl3)) ∧ (¬ iv2 = 0 → ((ob hv1 al0 2) ∧ (((aI hv1 al0 9) = 0 → ((ob hv1 al0 2) ∧ wp_X2_readRow hv1 al0  (fun hv3  => wb_X2_readLines_184 K23 hv3 al0 xl3 post))) ∧ ((aI hv1 al0 9) = 1 → ((ob hv1 al0 2) ∧ wp_X2_readTide hv1 al0  (fun hv4  => wb_X2_readLines_184 K23 hv4 al0 xl3 post))) ∧ ((aI hv1 al0 9) = 2 → ((ob hv1 al0 2) ∧ wp_X2_readNewRaft hv1 al0  (fun hv5  => wb_X2_readLines_184 K23 hv5 al0 xl3 post))) ∧ ((aI hv1 al0 9) = 3 → ((ob hv1 al0 2) ∧ wp_X2_readPole hv1 al0  (fun hv6  => wb_X2_readLines_184 K23 hv6 al0 xl3 post))) ∧ ((aI hv1 al0 9) = 4 → ((ob hv1 al0 2) ∧ wp_X2_readRope hv1 al0  (fun hv7  => wb_X2_readLines_184 K23 hv7 al0 xl3 post))) ∧ ((aI hv1 al0 9) = 5 → ((ob hv1 al0 2) ∧ wp_X2_readMoor hv1 al0  (fun hv8  => wb_X2_readLines_184 K23 hv8 al0 xl3 post))) ∧ ((aI hv1 al0 9) = 6 → ((ob hv1 al0 2) ∧ wp_X2_readPairWant hv1 al0 0 (fun hv9  => wb_X2_readLines_184 K23 hv9 al0 xl3 post))) ∧ ((aI hv1 al0 9) = 7 → ((ob hv1 al0 2) ∧ wp_X2_readPairWant hv1 al0 1 (fun hv10  => wb_X2_readLines_184 K23 hv10 al0 xl3 post))) ∧ ((aI hv1 al0 9) = 8 → ((ob hv1 al0 2) ∧ wp_X2_readSun hv1 al0  (fun hv11  => wb_X2_readLines_184 K23 hv11 al0 xl3 post))) ∧ ((aI hv1 al0 9) = 9 → ((ob hv1 al0 2) ∧ wp_X2_readLies hv1 al0  (fun hv12  => wb_X2_readLines_184 K23 hv12 al0 xl3 post))) ∧ ((aI hv1 al0 9) = 10 → ((ob hv1 al0 2) ∧ wp_X2_readSquare hv1 al0  (fun hv13  => wb_X2_readLines_184 K23 hv13 al0 xl3 post))) ∧ (((aI hv1 al0 9).toInt < 0 ∨ 10 < (aI hv1 al0 9).toInt) → ((ob hv1 al0 2) ∧ wp_X7_fail 2 hv1 al0 1 (fun hv14  => wb_X2_readLines_184 K23 hv14 al0 xl3 post)))))))))
set_option maxRecDepth 100000 in
theorem tb_X2_readLines_23 {G : GG} {p : Program} {l : Launch} {e : Env} {R : Room} {s : State} {m : MethodId} {args : Array Value} {below : List Frame} {meth : Method} {c : Code} {n0 s0 : Nat} {post : AH → Int32 → Prop} (C : Cx G p R s m args meth c 4 cX2_readLines RX2 n0 s0 5 111) (hr : meth.sig.returnType = (some .int)) {K23 : AH → Nat → Int32 → Prop} (hK23 : ∀ (h : AH) (al0 : Nat) (xl3 : Int32), K23 h al0 xl3 → AW G p l e R s m args below meth c 4 (QM G (pI post) args s below n0 s0) 23 [(0, .ref (G.1 + al0)), (3, .int xl3)] [] h) {h : AH} {al0 : Nat} {xl3 : Int32}  (hw : wb_X2_readLines_23 K23 h al0 xl3 post) : AW G p l e R s m args below meth c 4 (QM G (pI post) args s below n0 s0) 23 [(0, .ref (G.1 + al0)), (3, .int xl3)] [] h := by
  unfold wb_X2_readLines_23 at hw
  refine r_iload_n C dX2_readLines_23 1 rfl ?_
  refine r_sipush (v := 900) C dX2_readLines_24 (by decide) ?_
  refine r_icmp_ge C dX2_readLines_27 194 (by decide) (fun hc => ?_) (fun hc => ?_)
  · replace hw := hw.1 hc
    refine r_iload_n C dX2_readLines_194 1 rfl ?_
    exact r_iret C hr dX2_readLines_195 hw
  · replace hw := hw.2 hc
    refine r_aload_n C dX2_readLines_30 0 rfl ?_
    have hob := hw.1
    replace hw := hw.2
    refine r_callU C (x := ⟨RX2, "goesOn", "()Z"⟩) (As := []) (rest := []) (c_X7_goesOn (by decide) G h al0  _ hw) yl_X7_goesOn (gm3 (List.mem_of_getElem? (i := 136) rfl) rfl) (gm3 (List.mem_of_getElem? (i := 140) rfl) rfl) (ci := 2) rfl (by decide) (gm3 (List.mem_of_getElem? (i := 137) rfl) rfl) (gm3 (List.mem_of_getElem? (i := 139) rfl) rfl) rfl hob (by decide) rfl (Nat.le_of_ble_eq_true rfl) dX2_readLines_31 rfl (kI fun hv1 iv2 hw => ?_)
    refine r_if_eq C dX2_readLines_34 194 (by decide) (fun hc => ?_) (fun hc => ?_)
    · replace hw := hw.1 hc
      refine r_iload_n C dX2_readLines_194 1 rfl ?_
      exact r_iret C hr dX2_readLines_195 hw
    · replace hw := hw.2 hc
      refine r_aload_n C dX2_readLines_37 0 rfl ?_
      refine r_getI C fl_RX2_33_2 hw.1 (fun _ _ _ => rfl) dX2_readLines_38 ?_
      replace hw := hw.2
      by_cases hc0 : (aI hv1 al0 9) = 0
      · replace hw := hw.1 hc0
        refine r_tableIn C dX2_readLines_41 (by rw [hc0]; decide) (by rw [hc0]; decide) (by rw [hc0]; rfl) 100 (by decide) ?_
        refine r_aload_n C dX2_readLines_100 0 rfl ?_
        have hob := hw.1
        replace hw := hw.2
        refine r_callV C (As := []) (rest := []) (c_X2_readRow G hv1 al0  _ hw) yl_X2_readRow (gm3 (List.mem_of_getElem? (i := 162) rfl) rfl) (gm3 (List.mem_of_getElem? (i := 164) rfl) rfl) (ci := 2) rfl (by decide) (gsel (List.mem_of_getElem? (i := 2) rfl)) hob (by decide) rfl (Nat.le_of_ble_eq_true rfl) dX2_readLines_101 rfl (kV fun hv3  hw => ?_)
        refine r_goto C dX2_readLines_104 184 (by decide) ?_
        refine r_sub [0, 1] rfl ?_
        exact tb_X2_readLines_184 C hr hK23 hw
      by_cases hc1 : (aI hv1 al0 9) = 1
      · replace hw := hw.2.1 hc1
        refine r_tableIn C dX2_readLines_41 (by rw [hc1]; decide) (by rw [hc1]; decide) (by rw [hc1]; rfl) 107 (by decide) ?_
        refine r_aload_n C dX2_readLines_107 0 rfl ?_
        have hob := hw.1
        replace hw := hw.2
        refine r_callV C (As := []) (rest := []) (c_X2_readTide G hv1 al0  _ hw) yl_X2_readTide (gm3 (List.mem_of_getElem? (i := 178) rfl) rfl) (gm3 (List.mem_of_getElem? (i := 180) rfl) rfl) (ci := 2) rfl (by decide) (gsel (List.mem_of_getElem? (i := 3) rfl)) hob (by decide) rfl (Nat.le_of_ble_eq_true rfl) dX2_readLines_108 rfl (kV fun hv4  hw => ?_)
        refine r_goto C dX2_readLines_111 184 (by decide) ?_
        refine r_sub [0, 1] rfl ?_
        exact tb_X2_readLines_184 C hr hK23 hw
      by_cases hc2 : (aI hv1 al0 9) = 2
      · replace hw := hw.2.2.1 hc2
        refine r_tableIn C dX2_readLines_41 (by rw [hc2]; decide) (by rw [hc2]; decide) (by rw [hc2]; rfl) 114 (by decide) ?_
        refine r_aload_n C dX2_readLines_114 0 rfl ?_
        have hob := hw.1
        replace hw := hw.2
        refine r_callV C (As := []) (rest := []) (c_X2_readNewRaft G hv1 al0  _ hw) yl_X2_readNewRaft (gm3 (List.mem_of_getElem? (i := 188) rfl) rfl) (gm3 (List.mem_of_getElem? (i := 190) rfl) rfl) (ci := 2) rfl (by decide) (gsel (List.mem_of_getElem? (i := 4) rfl)) hob (by decide) rfl (Nat.le_of_ble_eq_true rfl) dX2_readLines_115 rfl (kV fun hv5  hw => ?_)
        refine r_goto C dX2_readLines_118 184 (by decide) ?_
        refine r_sub [0, 1] rfl ?_
        exact tb_X2_readLines_184 C hr hK23 hw
      by_cases hc3 : (aI hv1 al0 9) = 3
      · replace hw := hw.2.2.2.1 hc3
        refine r_tableIn C dX2_readLines_41 (by rw [hc3]; decide) (by rw [hc3]; decide) (by rw [hc3]; rfl) 121 (by decide) ?_
        refine r_aload_n C dX2_readLines_121 0 rfl ?_
        have hob := hw.1
        replace hw := hw.2
        refine r_callV C (As := []) (rest := []) (c_X2_readPole G hv1 al0  _ hw) yl_X2_readPole (gm3 (List.mem_of_getElem? (i := 229) rfl) rfl) (gm3 (List.mem_of_getElem? (i := 231) rfl) rfl) (ci := 2) rfl (by decide) (gsel (List.mem_of_getElem? (i := 7) rfl)) hob (by decide) rfl (Nat.le_of_ble_eq_true rfl) dX2_readLines_122 rfl (kV fun hv6  hw => ?_)
        refine r_goto C dX2_readLines_125 184 (by decide) ?_
        refine r_sub [0, 1] rfl ?_
        exact tb_X2_readLines_184 C hr hK23 hw
      by_cases hc4 : (aI hv1 al0 9) = 4
      · replace hw := hw.2.2.2.2.1 hc4
        refine r_tableIn C dX2_readLines_41 (by rw [hc4]; decide) (by rw [hc4]; decide) (by rw [hc4]; rfl) 128 (by decide) ?_
        refine r_aload_n C dX2_readLines_128 0 rfl ?_
        have hob := hw.1
        replace hw := hw.2
        refine r_callV C (As := []) (rest := []) (c_X2_readRope G hv1 al0  _ hw) yl_X2_readRope (gm3 (List.mem_of_getElem? (i := 233) rfl) rfl) (gm3 (List.mem_of_getElem? (i := 235) rfl) rfl) (ci := 2) rfl (by decide) (gsel (List.mem_of_getElem? (i := 8) rfl)) hob (by decide) rfl (Nat.le_of_ble_eq_true rfl) dX2_readLines_129 rfl (kV fun hv7  hw => ?_)
        refine r_goto C dX2_readLines_132 184 (by decide) ?_
        refine r_sub [0, 1] rfl ?_
        exact tb_X2_readLines_184 C hr hK23 hw
      by_cases hc5 : (aI hv1 al0 9) = 5
      · replace hw := hw.2.2.2.2.2.1 hc5
        refine r_tableIn C dX2_readLines_41 (by rw [hc5]; decide) (by rw [hc5]; decide) (by rw [hc5]; rfl) 135 (by decide) ?_
        refine r_aload_n C dX2_readLines_135 0 rfl ?_
        have hob := hw.1
        replace hw := hw.2
        refine r_callV C (As := []) (rest := []) (c_X2_readMoor G hv1 al0  _ hw) yl_X2_readMoor (gm4 (List.mem_of_getElem? (i := 20) rfl) rfl) (gm4 (List.mem_of_getElem? (i := 22) rfl) rfl) (ci := 2) rfl (by decide) (gsel (List.mem_of_getElem? (i := 9) rfl)) hob (by decide) rfl (Nat.le_of_ble_eq_true rfl) dX2_readLines_136 rfl (kV fun hv8  hw => ?_)
        refine r_goto C dX2_readLines_139 184 (by decide) ?_
        refine r_sub [0, 1] rfl ?_
        exact tb_X2_readLines_184 C hr hK23 hw
      by_cases hc6 : (aI hv1 al0 9) = 6
      · replace hw := hw.2.2.2.2.2.2.1 hc6
        refine r_tableIn C dX2_readLines_41 (by rw [hc6]; decide) (by rw [hc6]; decide) (by rw [hc6]; rfl) 142 (by decide) ?_
        refine r_aload_n C dX2_readLines_142 0 rfl ?_
        refine r_iconst (v := 0) C dX2_readLines_143 (by decide) ?_
        have hob := hw.1
        replace hw := hw.2
        refine r_callV C (As := [.int 0]) (rest := []) (c_X2_readPairWant G hv1 al0 0 _ hw) yl_X2_readPairWant (gm4 (List.mem_of_getElem? (i := 24) rfl) rfl) (gm4 (List.mem_of_getElem? (i := 26) rfl) rfl) (ci := 2) rfl (by decide) (gsel (List.mem_of_getElem? (i := 10) rfl)) hob (by decide) rfl (Nat.le_of_ble_eq_true rfl) dX2_readLines_144 rfl (kV fun hv9  hw => ?_)
        refine r_goto C dX2_readLines_147 184 (by decide) ?_
        refine r_sub [0, 1] rfl ?_
        exact tb_X2_readLines_184 C hr hK23 hw
      by_cases hc7 : (aI hv1 al0 9) = 7
      · replace hw := hw.2.2.2.2.2.2.2.1 hc7
        refine r_tableIn C dX2_readLines_41 (by rw [hc7]; decide) (by rw [hc7]; decide) (by rw [hc7]; rfl) 150 (by decide) ?_
        refine r_aload_n C dX2_readLines_150 0 rfl ?_
        refine r_iconst (v := 1) C dX2_readLines_151 (by decide) ?_
        have hob := hw.1
        replace hw := hw.2
        refine r_callV C (As := [.int 1]) (rest := []) (c_X2_readPairWant G hv1 al0 1 _ hw) yl_X2_readPairWant (gm4 (List.mem_of_getElem? (i := 24) rfl) rfl) (gm4 (List.mem_of_getElem? (i := 26) rfl) rfl) (ci := 2) rfl (by decide) (gsel (List.mem_of_getElem? (i := 10) rfl)) hob (by decide) rfl (Nat.le_of_ble_eq_true rfl) dX2_readLines_152 rfl (kV fun hv10  hw => ?_)
        refine r_goto C dX2_readLines_155 184 (by decide) ?_
        refine r_sub [0, 1] rfl ?_
        exact tb_X2_readLines_184 C hr hK23 hw
      by_cases hc8 : (aI hv1 al0 9) = 8
      · replace hw := hw.2.2.2.2.2.2.2.2.1 hc8
        refine r_tableIn C dX2_readLines_41 (by rw [hc8]; decide) (by rw [hc8]; decide) (by rw [hc8]; rfl) 158 (by decide) ?_
        refine r_aload_n C dX2_readLines_158 0 rfl ?_
        have hob := hw.1
        replace hw := hw.2
        refine r_callV C (As := []) (rest := []) (c_X2_readSun G hv1 al0  _ hw) yl_X2_readSun (gm4 (List.mem_of_getElem? (i := 40) rfl) rfl) (gm4 (List.mem_of_getElem? (i := 42) rfl) rfl) (ci := 2) rfl (by decide) (gsel (List.mem_of_getElem? (i := 13) rfl)) hob (by decide) rfl (Nat.le_of_ble_eq_true rfl) dX2_readLines_159 rfl (kV fun hv11  hw => ?_)
        refine r_goto C dX2_readLines_162 184 (by decide) ?_
        refine r_sub [0, 1] rfl ?_
        exact tb_X2_readLines_184 C hr hK23 hw
      by_cases hc9 : (aI hv1 al0 9) = 9
      · replace hw := hw.2.2.2.2.2.2.2.2.2.1 hc9
        refine r_tableIn C dX2_readLines_41 (by rw [hc9]; decide) (by rw [hc9]; decide) (by rw [hc9]; rfl) 165 (by decide) ?_
        refine r_aload_n C dX2_readLines_165 0 rfl ?_
        have hob := hw.1
        replace hw := hw.2
        refine r_callV C (As := []) (rest := []) (c_X2_readLies G hv1 al0  _ hw) yl_X2_readLies (gm4 (List.mem_of_getElem? (i := 50) rfl) rfl) (gm4 (List.mem_of_getElem? (i := 52) rfl) rfl) (ci := 2) rfl (by decide) (gsel (List.mem_of_getElem? (i := 14) rfl)) hob (by decide) rfl (Nat.le_of_ble_eq_true rfl) dX2_readLines_166 rfl (kV fun hv12  hw => ?_)
        refine r_goto C dX2_readLines_169 184 (by decide) ?_
        refine r_sub [0, 1] rfl ?_
        exact tb_X2_readLines_184 C hr hK23 hw
      by_cases hc10 : (aI hv1 al0 9) = 10
      · replace hw := hw.2.2.2.2.2.2.2.2.2.2.1 hc10
        refine r_tableIn C dX2_readLines_41 (by rw [hc10]; decide) (by rw [hc10]; decide) (by rw [hc10]; rfl) 172 (by decide) ?_
        refine r_aload_n C dX2_readLines_172 0 rfl ?_
        have hob := hw.1
        replace hw := hw.2
        refine r_callV C (As := []) (rest := []) (c_X2_readSquare G hv1 al0  _ hw) yl_X2_readSquare (gm4 (List.mem_of_getElem? (i := 54) rfl) rfl) (gm4 (List.mem_of_getElem? (i := 56) rfl) rfl) (ci := 2) rfl (by decide) (gsel (List.mem_of_getElem? (i := 15) rfl)) hob (by decide) rfl (Nat.le_of_ble_eq_true rfl) dX2_readLines_173 rfl (kV fun hv13  hw => ?_)
        refine r_goto C dX2_readLines_176 184 (by decide) ?_
        refine r_sub [0, 1] rfl ?_
        exact tb_X2_readLines_184 C hr hK23 hw
      have hcd : (aI hv1 al0 9).toInt < 0 ∨ 10 < (aI hv1 al0 9).toInt := sw_out (aI hv1 al0 9) 10 (by decide) (fun k hk => match k, hk with | 0, _ => hc0 | 1, _ => hc1 | 2, _ => hc2 | 3, _ => hc3 | 4, _ => hc4 | 5, _ => hc5 | 6, _ => hc6 | 7, _ => hc7 | 8, _ => hc8 | 9, _ => hc9 | 10, _ => hc10 | k + 11, hk => absurd hk (by omega))
      replace hw := hw.2.2.2.2.2.2.2.2.2.2.2 hcd
      refine r_tableOut C dX2_readLines_41 hcd 179 (by decide) ?_
      refine r_aload_n C dX2_readLines_179 0 rfl ?_
      refine r_iconst (v := 1) C dX2_readLines_180 (by decide) ?_
      have hob := hw.1
      replace hw := hw.2
      refine r_callU C (x := ⟨RX2, "fail", "(I)V"⟩) (As := [.int 1]) (rest := []) (c_X7_fail (by decide) G hv1 al0 1 _ hw) yl_X7_fail (gm3 (List.mem_of_getElem? (i := 166) rfl) rfl) (gm3 (List.mem_of_getElem? (i := 157) rfl) rfl) (ci := 2) rfl (by decide) (gm3 (List.mem_of_getElem? (i := 167) rfl) rfl) (gm3 (List.mem_of_getElem? (i := 169) rfl) rfl) rfl hob (by decide) rfl (Nat.le_of_ble_eq_true rfl) dX2_readLines_181 rfl (kV fun hv14  hw => ?_)
      refine r_sub [0, 1] rfl ?_
      exact tb_X2_readLines_184 C hr hK23 hw
def wl_X2_readLines_23  (post : AH → Int32 → Prop) : Nat → AH → Nat → Int32 → Prop
  | 0 => fun _ _ _ => False
  | n + 1 => fun h al0 xl3 => wb_X2_readLines_23  (wl_X2_readLines_23  post n) h al0 xl3 post
theorem tl_X2_readLines_23 {G : GG} {p : Program} {l : Launch} {e : Env} {R : Room} {s : State} {m : MethodId} {args : Array Value} {below : List Frame} {meth : Method} {c : Code} {n0 s0 : Nat} {post : AH → Int32 → Prop} (C : Cx G p R s m args meth c 4 cX2_readLines RX2 n0 s0 5 111) (hr : meth.sig.returnType = (some .int))   : ∀ (n : Nat) (h : AH) (al0 : Nat) (xl3 : Int32), wl_X2_readLines_23  post n h al0 xl3 → AW G p l e R s m args below meth c 4 (QM G (pI post) args s below n0 s0) 23 [(0, .ref (G.1 + al0)), (3, .int xl3)] [] h := by
  intro n
  induction n with
  | zero => intro h al0 xl3 hw; exact hw.elim
  | succ n ih => intro h al0 xl3 hw; exact tb_X2_readLines_23 C hr  ih hw
def wp_X2_readLines (h : AH) (a0 : Nat) (a1 : Nat) (x2 : Int32) (post : AH → Int32 → Prop) : Prop := (ob h a0 2) ∧ wp_X7_begin 2 h a0 a1 x2 900 (fun hv1  => (ob hv1 a0 2) ∧ (∃ rv2, aP hv1 a0 12 = some rv2 ∧ ((ob hv1 rv2 1) ∧ wp_X1_empty hv1 rv2  (fun hv3  => (ob hv3 a0 2) ∧ (∀ hv4 : AH, hv4 = hI hv3 a0 13 0 → (∃ n, wl_X2_readLines_23  post n hv4 a0 0))))))
set_option maxRecDepth 100000 in
theorem c_X2_readLines (G : GG) (h : AH) (a0 : Nat) (a1 : Nat) (x2 : Int32) (post : AH → Int32 → Prop) (hw : wp_X2_readLines h a0 a1 x2 post) : MC G yX2_readLines cX2_readLines 4 (some .int) 5 111 h [.ref (G.1 + a0), .ref (G.1 + a1), .int x2] (pI post) := by
  refine MC.of (lv := [(0, .ref (G.1 + a0)), (1, .ref (G.1 + a1)), (2, .int x2)]) (by decide) (Nat.le_of_ble_eq_true rfl) rfl fun p l e R s m args below meth c C hr hnm => ?_
  unfold wp_X2_readLines at hw
  refine r_aload_n C dX2_readLines_0 0 rfl ?_
  refine r_aload_n C dX2_readLines_1 1 rfl ?_
  refine r_iload_n C dX2_readLines_2 2 rfl ?_
  refine r_sipush (v := 900) C dX2_readLines_3 (by decide) ?_
  have hob := hw.1
  replace hw := hw.2
  refine r_callU C (x := ⟨RX2, "begin", "([BII)V"⟩) (As := [.ref (G.1 + a1), .int x2, .int 900]) (rest := []) (c_X7_begin (by decide) G h a0 a1 x2 900 _ hw) yl_X7_begin (gm3 (List.mem_of_getElem? (i := 115) rfl) rfl) (gm3 (List.mem_of_getElem? (i := 119) rfl) rfl) (ci := 2) rfl (by decide) (gm3 (List.mem_of_getElem? (i := 116) rfl) rfl) (gm3 (List.mem_of_getElem? (i := 118) rfl) rfl) rfl hob (by decide) rfl (Nat.le_of_ble_eq_true rfl) dX2_readLines_6 rfl (kV fun hv1  hw => ?_)
  refine r_aload_n C dX2_readLines_9 0 rfl ?_
  have hob := hw.1
  obtain ⟨rv2, hp, hw⟩ := hw.2
  refine r_getP C fl_RX2_12_2 hob hp (fun _ _ _ => rfl) dX2_readLines_10 ?_
  have hob := hw.1
  replace hw := hw.2
  refine r_callV C (As := []) (rest := []) (c_X1_empty G hv1 rv2  _ hw) yl_X1_empty (gm3 (List.mem_of_getElem? (i := 124) rfl) rfl) (gm3 (List.mem_of_getElem? (i := 125) rfl) rfl) (ci := 1) rfl (by decide) (gm3 (List.mem_of_getElem? (i := 126) rfl) rfl) hob (by decide) rfl (Nat.le_of_ble_eq_true rfl) dX2_readLines_13 rfl (kV fun hv3  hw => ?_)
  refine r_aload_n C dX2_readLines_16 0 rfl ?_
  refine r_iconst (v := 0) C dX2_readLines_17 (by decide) ?_
  refine r_putI C fp_RX2_25_2 hw.1 rfl dX2_readLines_18 ?_
  replace hw := hw.2
  refine r_toph fun hv4 ehv4 => ?_
  replace hw := hw hv4 ehv4
  refine r_iconst (v := 0) C dX2_readLines_21 (by decide) ?_
  refine r_istore_n C dX2_readLines_22 [(3, .int 0), (0, .ref (G.1 + a0)), (1, .ref (G.1 + a1)), (2, .int x2)] (by decide) rfl ?_
  refine r_sub [1, 0] rfl ?_
  obtain ⟨n, hw⟩ := hw
  exact tl_X2_readLines_23 C hr  n _ _ _ hw
theorem dX3_readAct_0 : decode cX3_readAct 0 = .ok (.aload_n 0, 1) := by decide +kernel
theorem dX3_readAct_1 : decode cX3_readAct 1 = .ok (.getfield 37, 3) := by decide +kernel
theorem dX3_readAct_4 : decode cX3_readAct 4 = .ok (.bipush 15, 2) := by decide +kernel
theorem dX3_readAct_6 : decode cX3_readAct 6 = .ok (.if_icmp .eq 26, 3) := by decide +kernel
theorem dX3_readAct_9 : decode cX3_readAct 9 = .ok (.aload_n 0, 1) := by decide +kernel
theorem dX3_readAct_10 : decode cX3_readAct 10 = .ok (.getfield 37, 3) := by decide +kernel
theorem dX3_readAct_13 : decode cX3_readAct 13 = .ok (.bipush 16, 2) := by decide +kernel
theorem dX3_readAct_15 : decode cX3_readAct 15 = .ok (.if_icmp .eq 17, 3) := by decide +kernel
theorem dX3_readAct_18 : decode cX3_readAct 18 = .ok (.aload_n 0, 1) := by decide +kernel
theorem dX3_readAct_19 : decode cX3_readAct 19 = .ok (.getfield 37, 3) := by decide +kernel
theorem dX3_readAct_22 : decode cX3_readAct 22 = .ok (.bipush 17, 2) := by decide +kernel
theorem dX3_readAct_24 : decode cX3_readAct 24 = .ok (.if_icmp .eq 8, 3) := by decide +kernel
theorem dX3_readAct_27 : decode cX3_readAct 27 = .ok (.aload_n 0, 1) := by decide +kernel
theorem dX3_readAct_28 : decode cX3_readAct 28 = .ok (.iconst 1, 1) := by decide +kernel
theorem dX3_readAct_29 : decode cX3_readAct 29 = .ok (.invokevirtual 40, 3) := by decide +kernel
theorem dX3_readAct_32 : decode cX3_readAct 32 = .ok (.aload_n 0, 1) := by decide +kernel
theorem dX3_readAct_33 : decode cX3_readAct 33 = .ok (.getfield 22, 3) := by decide +kernel
theorem dX3_readAct_36 : decode cX3_readAct 36 = .ok (.bipush 60, 2) := by decide +kernel
theorem dX3_readAct_38 : decode cX3_readAct 38 = .ok (.if_icmp .lt 9, 3) := by decide +kernel
theorem dX3_readAct_41 : decode cX3_readAct 41 = .ok (.aload_n 0, 1) := by decide +kernel
theorem dX3_readAct_42 : decode cX3_readAct 42 = .ok (.iconst 4, 1) := by decide +kernel
theorem dX3_readAct_43 : decode cX3_readAct 43 = .ok (.invokevirtual 40, 3) := by decide +kernel
theorem dX3_readAct_46 : decode cX3_readAct 46 = .ok (.return_, 1) := by decide +kernel
theorem dX3_readAct_47 : decode cX3_readAct 47 = .ok (.aload_n 0, 1) := by decide +kernel
theorem dX3_readAct_48 : decode cX3_readAct 48 = .ok (.getfield 37, 3) := by decide +kernel
theorem dX3_readAct_51 : decode cX3_readAct 51 = .ok (.istore_n 2, 1) := by decide +kernel
theorem dX3_readAct_52 : decode cX3_readAct 52 = .ok (.iload_n 2, 1) := by decide +kernel
theorem dX3_readAct_53 : decode cX3_readAct 53 = .ok (.bipush 17, 2) := by decide +kernel
theorem dX3_readAct_55 : decode cX3_readAct 55 = .ok (.if_icmp .ne 13, 3) := by decide +kernel
theorem dX3_readAct_58 : decode cX3_readAct 58 = .ok (.aload_n 0, 1) := by decide +kernel
theorem dX3_readAct_59 : decode cX3_readAct 59 = .ok (.iconst 1, 1) := by decide +kernel
theorem dX3_readAct_60 : decode cX3_readAct 60 = .ok (.bipush 96, 2) := by decide +kernel
theorem dX3_readAct_62 : decode cX3_readAct 62 = .ok (.invokevirtual 44, 3) := by decide +kernel
theorem dX3_readAct_65 : decode cX3_readAct 65 = .ok (.goto 8, 3) := by decide +kernel
theorem dX3_readAct_68 : decode cX3_readAct 68 = .ok (.aload_n 0, 1) := by decide +kernel
theorem dX3_readAct_69 : decode cX3_readAct 69 = .ok (.aload_n 1, 1) := by decide +kernel
theorem dX3_readAct_70 : decode cX3_readAct 70 = .ok (.invokevirtual 48, 3) := by decide +kernel
theorem dX3_readAct_73 : decode cX3_readAct 73 = .ok (.istore_n 3, 1) := by decide +kernel
theorem dX3_readAct_74 : decode cX3_readAct 74 = .ok (.aload_n 0, 1) := by decide +kernel
theorem dX3_readAct_75 : decode cX3_readAct 75 = .ok (.getfield 15, 3) := by decide +kernel
theorem dX3_readAct_78 : decode cX3_readAct 78 = .ok (.aload_n 0, 1) := by decide +kernel
theorem dX3_readAct_79 : decode cX3_readAct 79 = .ok (.getfield 22, 3) := by decide +kernel
theorem dX3_readAct_82 : decode cX3_readAct 82 = .ok (.iload_n 3, 1) := by decide +kernel
theorem dX3_readAct_83 : decode cX3_readAct 83 = .ok (.iastore, 1) := by decide +kernel
theorem dX3_readAct_84 : decode cX3_readAct 84 = .ok (.aload_n 0, 1) := by decide +kernel
theorem dX3_readAct_85 : decode cX3_readAct 85 = .ok (.getfield 9, 3) := by decide +kernel
theorem dX3_readAct_88 : decode cX3_readAct 88 = .ok (.aload_n 0, 1) := by decide +kernel
theorem dX3_readAct_89 : decode cX3_readAct 89 = .ok (.getfield 22, 3) := by decide +kernel
theorem dX3_readAct_92 : decode cX3_readAct 92 = .ok (.iload_n 2, 1) := by decide +kernel
theorem dX3_readAct_93 : decode cX3_readAct 93 = .ok (.bipush 15, 2) := by decide +kernel
theorem dX3_readAct_95 : decode cX3_readAct 95 = .ok (.if_icmp .ne 10, 3) := by decide +kernel
theorem dX3_readAct_98 : decode cX3_readAct 98 = .ok (.aload_n 0, 1) := by decide +kernel
theorem dX3_readAct_99 : decode cX3_readAct 99 = .ok (.invokevirtual 52, 3) := by decide +kernel
theorem dX3_readAct_102 : decode cX3_readAct 102 = .ok (.goto 14, 3) := by decide +kernel
theorem dX3_readAct_105 : decode cX3_readAct 105 = .ok (.iload_n 2, 1) := by decide +kernel
theorem dX3_readAct_106 : decode cX3_readAct 106 = .ok (.bipush 16, 2) := by decide +kernel
theorem dX3_readAct_108 : decode cX3_readAct 108 = .ok (.if_icmp .ne 7, 3) := by decide +kernel
theorem dX3_readAct_111 : decode cX3_readAct 111 = .ok (.iconst 4, 1) := by decide +kernel
theorem dX3_readAct_112 : decode cX3_readAct 112 = .ok (.goto 4, 3) := by decide +kernel
theorem dX3_readAct_115 : decode cX3_readAct 115 = .ok (.iconst 5, 1) := by decide +kernel
theorem dX3_readAct_116 : decode cX3_readAct 116 = .ok (.iastore, 1) := by decide +kernel
theorem dX3_readAct_117 : decode cX3_readAct 117 = .ok (.aload_n 0, 1) := by decide +kernel
theorem dX3_readAct_118 : decode cX3_readAct 118 = .ok (.dup, 1) := by decide +kernel
theorem dX3_readAct_119 : decode cX3_readAct 119 = .ok (.getfield 22, 3) := by decide +kernel
theorem dX3_readAct_122 : decode cX3_readAct 122 = .ok (.iconst 1, 1) := by decide +kernel
theorem dX3_readAct_123 : decode cX3_readAct 123 = .ok (.iadd, 1) := by decide +kernel
theorem dX3_readAct_124 : decode cX3_readAct 124 = .ok (.putfield 22, 3) := by decide +kernel
theorem dX3_readAct_127 : decode cX3_readAct 127 = .ok (.return_, 1) := by decide +kernel
def wb_X3_readAct_116  (h : AH) (al0 : Nat) (xs0 : Int32) (xs1 : Int32) (as2 : Nat) (post : AH → Prop) : Prop := (ob h as2 13) ∧ ((vp_in xs1 (aL h as2)) ∧ (∀ hv1 : AH, hv1 = hI h as2 xs1.toNatClampNeg xs0 → ((ob hv1 al0 3) ∧ ((ob hv1 al0 3) ∧ (∀ hv2 : AH, hv2 = hI hv1 al0 12 ((aI hv1 al0 12) + (1 : Int32)) → (post hv2))))))
set_option maxRecDepth 100000 in
theorem tb_X3_readAct_116 {G : GG} {p : Program} {l : Launch} {e : Env} {R : Room} {s : State} {m : MethodId} {args : Array Value} {below : List Frame} {meth : Method} {c : Code} {n0 s0 : Nat} {post : AH → Prop} (C : Cx G p R s m args meth c 4 cX3_readAct RX3 n0 s0 4 86) (hr : meth.sig.returnType = none)   {h : AH} {al0 : Nat} {xs0 : Int32} {xs1 : Int32} {as2 : Nat} (hw : wb_X3_readAct_116  h al0 xs0 xs1 as2 post) : AW G p l e R s m args below meth c 4 (QM G (pV post) args s below n0 s0) 116 [(0, .ref (G.1 + al0))] [.int xs0, .int xs1, .ref (G.1 + as2)] h := by
  unfold wb_X3_readAct_116 at hw
  refine r_iastore C hw.1 hw.2.1 dX3_readAct_116 ?_
  replace hw := hw.2.2
  refine r_toph fun hv1 ehv1 => ?_
  replace hw := hw hv1 ehv1
  refine r_aload_n C dX3_readAct_117 0 rfl ?_
  refine r_dup C dX3_readAct_118 rfl ?_
  refine r_getI C fl_RX3_22_3 hw.1 (fun _ _ _ => rfl) dX3_readAct_119 ?_
  replace hw := hw.2
  refine r_iconst (v := 1) C dX3_readAct_122 (by decide) ?_
  refine r_iadd C dX3_readAct_123 ?_
  refine r_putI C fp_RX3_22_3 hw.1 rfl dX3_readAct_124 ?_
  replace hw := hw.2
  refine r_toph fun hv2 ehv2 => ?_
  replace hw := hw hv2 ehv2
  exact r_vret C hr dX3_readAct_127 hw
def wb_X3_readAct_73  (h : AH) (al0 : Nat) (xl2 : Int32) (xs0 : Int32) (post : AH → Prop) : Prop := (ob h al0 3) ∧ (∃ rv1, aP h al0 14 = some rv1 ∧ ((ob h al0 3) ∧ ((ob h rv1 13) ∧ ((vp_in (aI h al0 12) (aL h rv1)) ∧ (∀ hv2 : AH, hv2 = hI h rv1 (aI h al0 12).toNatClampNeg xs0 → ((ob hv2 al0 3) ∧ (∃ rv3, aP hv2 al0 13 = some rv3 ∧ ((ob hv2 al0 3) ∧ ((¬ xl2 = 15 → ((¬ xl2 = 16 → (wb_X3_readAct_116  hv2 al0 5 (aI hv2 al0 12) rv3 post)) ∧ (xl2 = 16 → (wb_X3_readAct_116  hv2 al0 4 (aI hv2 al0 12) rv3 post)))) ∧ (xl2 = 15 → ((ob hv2 al0 3) ∧ wp_X7_readSide 3 hv2 al0  (fun hv4 iv5 => wb_X3_readAct_116  hv4 al0 iv5 (aI hv2 al0 12) rv3 post))))))))))))
set_option maxRecDepth 100000 in
theorem tb_X3_readAct_73 {G : GG} {p : Program} {l : Launch} {e : Env} {R : Room} {s : State} {m : MethodId} {args : Array Value} {below : List Frame} {meth : Method} {c : Code} {n0 s0 : Nat} {post : AH → Prop} (C : Cx G p R s m args meth c 4 cX3_readAct RX3 n0 s0 4 86) (hr : meth.sig.returnType = none)   {h : AH} {al0 : Nat} {xl2 : Int32} {xs0 : Int32} (hw : wb_X3_readAct_73  h al0 xl2 xs0 post) : AW G p l e R s m args below meth c 4 (QM G (pV post) args s below n0 s0) 73 [(0, .ref (G.1 + al0)), (2, .int xl2)] [.int xs0] h := by
  unfold wb_X3_readAct_73 at hw
  refine r_istore_n C dX3_readAct_73 [(3, .int xs0), (0, .ref (G.1 + al0)), (2, .int xl2)] (by decide) rfl ?_
  refine r_aload_n C dX3_readAct_74 1 rfl ?_
  have hob := hw.1
  obtain ⟨rv1, hp, hw⟩ := hw.2
  refine r_getP C fl_RX3_15_3 hob hp (fun _ _ _ => rfl) dX3_readAct_75 ?_
  refine r_aload_n C dX3_readAct_78 1 rfl ?_
  refine r_getI C fl_RX3_22_3 hw.1 (fun _ _ _ => rfl) dX3_readAct_79 ?_
  replace hw := hw.2
  refine r_iload_n C dX3_readAct_82 0 rfl ?_
  refine r_iastore C hw.1 hw.2.1 dX3_readAct_83 ?_
  replace hw := hw.2.2
  refine r_toph fun hv2 ehv2 => ?_
  replace hw := hw hv2 ehv2
  refine r_aload_n C dX3_readAct_84 1 rfl ?_
  have hob := hw.1
  obtain ⟨rv3, hp, hw⟩ := hw.2
  refine r_getP C fl_RX3_9_3 hob hp (fun _ _ _ => rfl) dX3_readAct_85 ?_
  refine r_aload_n C dX3_readAct_88 1 rfl ?_
  refine r_getI C fl_RX3_22_3 hw.1 (fun _ _ _ => rfl) dX3_readAct_89 ?_
  replace hw := hw.2
  refine r_iload_n C dX3_readAct_92 2 rfl ?_
  refine r_bipush (v := 15) C dX3_readAct_93 (by decide) ?_
  refine r_icmp_ne C dX3_readAct_95 105 (by decide) (fun hc => ?_) (fun hc => ?_)
  · replace hw := hw.1 hc
    refine r_iload_n C dX3_readAct_105 2 rfl ?_
    refine r_bipush (v := 16) C dX3_readAct_106 (by decide) ?_
    refine r_icmp_ne C dX3_readAct_108 115 (by decide) (fun hc => ?_) (fun hc => ?_)
    · replace hw := hw.1 hc
      refine r_iconst (v := 5) C dX3_readAct_115 (by decide) ?_
      refine r_sub [1] rfl ?_
      exact tb_X3_readAct_116 C hr  hw
    · replace hw := hw.2 hc
      refine r_iconst (v := 4) C dX3_readAct_111 (by decide) ?_
      refine r_goto C dX3_readAct_112 116 (by decide) ?_
      refine r_sub [1] rfl ?_
      exact tb_X3_readAct_116 C hr  hw
  · replace hw := hw.2 hc
    refine r_aload_n C dX3_readAct_98 1 rfl ?_
    have hob := hw.1
    replace hw := hw.2
    refine r_callU C (x := ⟨RX3, "readSide", "()I"⟩) (As := []) (rest := [.int (aI hv2 al0 12), .ref (G.1 + rv3)]) (c_X7_readSide (by decide) G hv2 al0  _ hw) yl_X7_readSide (gm5 (List.mem_of_getElem? (i := 11) rfl) rfl) (gm4 (List.mem_of_getElem? (i := 48) rfl) rfl) (ci := 3) rfl (by decide) (gm5 (List.mem_of_getElem? (i := 12) rfl) rfl) (gm5 (List.mem_of_getElem? (i := 13) rfl) rfl) rfl hob (by decide) rfl (Nat.le_of_ble_eq_true rfl) dX3_readAct_99 rfl (kI fun hv4 iv5 hw => ?_)
    refine r_goto C dX3_readAct_102 116 (by decide) ?_
    refine r_sub [1] rfl ?_
    exact tb_X3_readAct_116 C hr  hw
def wb_X3_readAct_32  (h : AH) (al0 : Nat) (al1 : Nat)  (post : AH → Prop) : Prop := (ob h al0 3) ∧ (((aI h al0 12) < 60 → ((ob h al0 3) ∧ (∀ iv1 : Int32, iv1 = aI h al0 9 → ((¬ iv1 = 17 → ((ob h al0 3) ∧ wp_X7_readRaft 3 h al0 al1 (fun hv2 iv3 => wb_X3_readAct_73  hv2 al0 iv1 iv3 post))) ∧ (iv1 = 17 → ((ob h al0 3) ∧ wp_X7_readNumber 3 h al0 1 96 (fun hv4 iv5 => wb_X3_readAct_73  hv4 al0 iv1 iv5 post))))))) ∧ (¬ (aI h al0 12) < 60 → ((ob h al0 3) ∧ wp_X7_fail 3 h al0 4 (fun hv6  => post hv6))))
set_option maxRecDepth 100000 in
theorem tb_X3_readAct_32 {G : GG} {p : Program} {l : Launch} {e : Env} {R : Room} {s : State} {m : MethodId} {args : Array Value} {below : List Frame} {meth : Method} {c : Code} {n0 s0 : Nat} {post : AH → Prop} (C : Cx G p R s m args meth c 4 cX3_readAct RX3 n0 s0 4 86) (hr : meth.sig.returnType = none)   {h : AH} {al0 : Nat} {al1 : Nat}  (hw : wb_X3_readAct_32  h al0 al1 post) : AW G p l e R s m args below meth c 4 (QM G (pV post) args s below n0 s0) 32 [(0, .ref (G.1 + al0)), (1, .ref (G.1 + al1))] [] h := by
  unfold wb_X3_readAct_32 at hw
  refine r_aload_n C dX3_readAct_32 0 rfl ?_
  refine r_getI C fl_RX3_22_3 hw.1 (fun _ _ _ => rfl) dX3_readAct_33 ?_
  replace hw := hw.2
  refine r_bipush (v := 60) C dX3_readAct_36 (by decide) ?_
  refine r_icmp_lt C dX3_readAct_38 47 (by decide) (fun hc => ?_) (fun hc => ?_)
  · replace hw := hw.1 hc
    refine r_aload_n C dX3_readAct_47 0 rfl ?_
    refine r_getI C fl_RX3_37_3 hw.1 (fun _ _ _ => rfl) dX3_readAct_48 ?_
    replace hw := hw.2
    refine r_topi fun iv1 eiv1 => ?_
    replace hw := hw iv1 eiv1
    refine r_istore_n C dX3_readAct_51 [(2, .int iv1), (0, .ref (G.1 + al0)), (1, .ref (G.1 + al1))] (by decide) rfl ?_
    refine r_iload_n C dX3_readAct_52 0 rfl ?_
    refine r_bipush (v := 17) C dX3_readAct_53 (by decide) ?_
    refine r_icmp_ne C dX3_readAct_55 68 (by decide) (fun hc => ?_) (fun hc => ?_)
    · replace hw := hw.1 hc
      refine r_aload_n C dX3_readAct_68 1 rfl ?_
      refine r_aload_n C dX3_readAct_69 2 rfl ?_
      have hob := hw.1
      replace hw := hw.2
      refine r_callU C (x := ⟨RX3, "readRaft", "(LRaftTown$Lagoon;)I"⟩) (As := [.ref (G.1 + al1)]) (rest := []) (c_X7_readRaft (by decide) G h al0 al1 _ hw) yl_X7_readRaft (gm5 (List.mem_of_getElem? (i := 8) rfl) rfl) (gm4 (List.mem_of_getElem? (i := 1) rfl) rfl) (ci := 3) rfl (by decide) (gm5 (List.mem_of_getElem? (i := 9) rfl) rfl) (gm5 (List.mem_of_getElem? (i := 10) rfl) rfl) rfl hob (by decide) rfl (Nat.le_of_ble_eq_true rfl) dX3_readAct_70 rfl (kI fun hv2 iv3 hw => ?_)
      refine r_sub [1, 0] rfl ?_
      exact tb_X3_readAct_73 C hr  hw
    · replace hw := hw.2 hc
      refine r_aload_n C dX3_readAct_58 1 rfl ?_
      refine r_iconst (v := 1) C dX3_readAct_59 (by decide) ?_
      refine r_bipush (v := 96) C dX3_readAct_60 (by decide) ?_
      have hob := hw.1
      replace hw := hw.2
      refine r_callU C (x := ⟨RX3, "readNumber", "(II)I"⟩) (As := [.int 1, .int 96]) (rest := []) (c_X7_readNumber (by decide) G h al0 1 96 _ hw) yl_X7_readNumber (gm5 (List.mem_of_getElem? (i := 5) rfl) rfl) (gm3 (List.mem_of_getElem? (i := 186) rfl) rfl) (ci := 3) rfl (by decide) (gm5 (List.mem_of_getElem? (i := 6) rfl) rfl) (gm5 (List.mem_of_getElem? (i := 7) rfl) rfl) rfl hob (by decide) rfl (Nat.le_of_ble_eq_true rfl) dX3_readAct_62 rfl (kI fun hv4 iv5 hw => ?_)
      refine r_goto C dX3_readAct_65 73 (by decide) ?_
      refine r_sub [1, 0] rfl ?_
      exact tb_X3_readAct_73 C hr  hw
  · replace hw := hw.2 hc
    refine r_aload_n C dX3_readAct_41 0 rfl ?_
    refine r_iconst (v := 4) C dX3_readAct_42 (by decide) ?_
    have hob := hw.1
    replace hw := hw.2
    refine r_callU C (x := ⟨RX3, "fail", "(I)V"⟩) (As := [.int 4]) (rest := []) (c_X7_fail (by decide) G h al0 4 _ hw) yl_X7_fail (gm5 (List.mem_of_getElem? (i := 2) rfl) rfl) (gm3 (List.mem_of_getElem? (i := 157) rfl) rfl) (ci := 3) rfl (by decide) (gm5 (List.mem_of_getElem? (i := 3) rfl) rfl) (gm5 (List.mem_of_getElem? (i := 4) rfl) rfl) rfl hob (by decide) rfl (Nat.le_of_ble_eq_true rfl) dX3_readAct_43 rfl (kV fun hv6  hw => ?_)
    exact r_vret C hr dX3_readAct_46 hw
def wp_X3_readAct (h : AH) (a0 : Nat) (a1 : Nat) (post : AH → Prop) : Prop := (ob h a0 3) ∧ (((aI h a0 9) = 15 → (wb_X3_readAct_32  h a0 a1 post)) ∧ (¬ (aI h a0 9) = 15 → ((ob h a0 3) ∧ (((aI h a0 9) = 16 → (wb_X3_readAct_32  h a0 a1 post)) ∧ (¬ (aI h a0 9) = 16 → ((ob h a0 3) ∧ (((aI h a0 9) = 17 → (wb_X3_readAct_32  h a0 a1 post)) ∧ (¬ (aI h a0 9) = 17 → ((ob h a0 3) ∧ wp_X7_fail 3 h a0 1 (fun hv1  => wb_X3_readAct_32  hv1 a0 a1 post))))))))))
set_option maxRecDepth 100000 in
theorem c_X3_readAct (G : GG) (h : AH) (a0 : Nat) (a1 : Nat) (post : AH → Prop) (hw : wp_X3_readAct h a0 a1 post) : MC G yX3_readAct cX3_readAct 4 none 4 86 h [.ref (G.1 + a0), .ref (G.1 + a1)] (pV post) := by
  refine MC.of (lv := [(0, .ref (G.1 + a0)), (1, .ref (G.1 + a1))]) (by decide) (Nat.le_of_ble_eq_true rfl) rfl fun p l e R s m args below meth c C hr hnm => ?_
  unfold wp_X3_readAct at hw
  refine r_aload_n C dX3_readAct_0 0 rfl ?_
  refine r_getI C fl_RX3_37_3 hw.1 (fun _ _ _ => rfl) dX3_readAct_1 ?_
  replace hw := hw.2
  refine r_bipush (v := 15) C dX3_readAct_4 (by decide) ?_
  refine r_icmp_eq C dX3_readAct_6 32 (by decide) (fun hc => ?_) (fun hc => ?_)
  · replace hw := hw.1 hc
    refine r_sub [0, 1] rfl ?_
    exact tb_X3_readAct_32 C hr  hw
  · replace hw := hw.2 hc
    refine r_aload_n C dX3_readAct_9 0 rfl ?_
    refine r_getI C fl_RX3_37_3 hw.1 (fun _ _ _ => rfl) dX3_readAct_10 ?_
    replace hw := hw.2
    refine r_bipush (v := 16) C dX3_readAct_13 (by decide) ?_
    refine r_icmp_eq C dX3_readAct_15 32 (by decide) (fun hc => ?_) (fun hc => ?_)
    · replace hw := hw.1 hc
      refine r_sub [0, 1] rfl ?_
      exact tb_X3_readAct_32 C hr  hw
    · replace hw := hw.2 hc
      refine r_aload_n C dX3_readAct_18 0 rfl ?_
      refine r_getI C fl_RX3_37_3 hw.1 (fun _ _ _ => rfl) dX3_readAct_19 ?_
      replace hw := hw.2
      refine r_bipush (v := 17) C dX3_readAct_22 (by decide) ?_
      refine r_icmp_eq C dX3_readAct_24 32 (by decide) (fun hc => ?_) (fun hc => ?_)
      · replace hw := hw.1 hc
        refine r_sub [0, 1] rfl ?_
        exact tb_X3_readAct_32 C hr  hw
      · replace hw := hw.2 hc
        refine r_aload_n C dX3_readAct_27 0 rfl ?_
        refine r_iconst (v := 1) C dX3_readAct_28 (by decide) ?_
        have hob := hw.1
        replace hw := hw.2
        refine r_callU C (x := ⟨RX3, "fail", "(I)V"⟩) (As := [.int 1]) (rest := []) (c_X7_fail (by decide) G h a0 1 _ hw) yl_X7_fail (gm5 (List.mem_of_getElem? (i := 2) rfl) rfl) (gm3 (List.mem_of_getElem? (i := 157) rfl) rfl) (ci := 3) rfl (by decide) (gm5 (List.mem_of_getElem? (i := 3) rfl) rfl) (gm5 (List.mem_of_getElem? (i := 4) rfl) rfl) rfl hob (by decide) rfl (Nat.le_of_ble_eq_true rfl) dX3_readAct_29 rfl (kV fun hv1  hw => ?_)
        refine r_sub [0, 1] rfl ?_
        exact tb_X3_readAct_32 C hr  hw
theorem dX3_readActs_0 : decode cX3_readActs 0 = .ok (.aload_n 0, 1) := by decide +kernel
theorem dX3_readActs_1 : decode cX3_readActs 1 = .ok (.aload_n 2, 1) := by decide +kernel
theorem dX3_readActs_2 : decode cX3_readActs 2 = .ok (.iload_n 3, 1) := by decide +kernel
theorem dX3_readActs_3 : decode cX3_readActs 3 = .ok (.sipush 700, 3) := by decide +kernel
theorem dX3_readActs_6 : decode cX3_readActs 6 = .ok (.invokevirtual 18, 3) := by decide +kernel
theorem dX3_readActs_9 : decode cX3_readActs 9 = .ok (.aload_n 0, 1) := by decide +kernel
theorem dX3_readActs_10 : decode cX3_readActs 10 = .ok (.iconst 0, 1) := by decide +kernel
theorem dX3_readActs_11 : decode cX3_readActs 11 = .ok (.putfield 22, 3) := by decide +kernel
theorem dX3_readActs_14 : decode cX3_readActs 14 = .ok (.iconst 0, 1) := by decide +kernel
theorem dX3_readActs_15 : decode cX3_readActs 15 = .ok (.istore 4, 2) := by decide +kernel
theorem dX3_readActs_17 : decode cX3_readActs 17 = .ok (.iload 4, 2) := by decide +kernel
theorem dX3_readActs_19 : decode cX3_readActs 19 = .ok (.bipush 60, 2) := by decide +kernel
theorem dX3_readActs_21 : decode cX3_readActs 21 = .ok (.if_icmp .gt 25, 3) := by decide +kernel
theorem dX3_readActs_24 : decode cX3_readActs 24 = .ok (.aload_n 0, 1) := by decide +kernel
theorem dX3_readActs_25 : decode cX3_readActs 25 = .ok (.invokevirtual 26, 3) := by decide +kernel
theorem dX3_readActs_28 : decode cX3_readActs 28 = .ok (.ifCond .eq 18, 3) := by decide +kernel
theorem dX3_readActs_31 : decode cX3_readActs 31 = .ok (.aload_n 0, 1) := by decide +kernel
theorem dX3_readActs_32 : decode cX3_readActs 32 = .ok (.aload_n 1, 1) := by decide +kernel
theorem dX3_readActs_33 : decode cX3_readActs 33 = .ok (.invokevirtual 30, 3) := by decide +kernel
theorem dX3_readActs_36 : decode cX3_readActs 36 = .ok (.aload_n 0, 1) := by decide +kernel
theorem dX3_readActs_37 : decode cX3_readActs 37 = .ok (.invokevirtual 34, 3) := by decide +kernel
theorem dX3_readActs_40 : decode cX3_readActs 40 = .ok (.iinc 4 1, 3) := by decide +kernel
theorem dX3_readActs_43 : decode cX3_readActs 43 = .ok (.goto (-26), 3) := by decide +kernel
theorem dX3_readActs_46 : decode cX3_readActs 46 = .ok (.aload_n 0, 1) := by decide +kernel
theorem dX3_readActs_47 : decode cX3_readActs 47 = .ok (.getfield 22, 3) := by decide +kernel
theorem dX3_readActs_50 : decode cX3_readActs 50 = .ok (.ireturn, 1) := by decide +kernel
def wb_X3_readActs_46  (h : AH) (al0 : Nat)  (post : AH → Int32 → Prop) : Prop := (ob h al0 3) ∧ (post h (aI h al0 12))
set_option maxRecDepth 100000 in
theorem tb_X3_readActs_46 {G : GG} {p : Program} {l : Launch} {e : Env} {R : Room} {s : State} {m : MethodId} {args : Array Value} {below : List Frame} {meth : Method} {c : Code} {n0 s0 : Nat} {post : AH → Int32 → Prop} (C : Cx G p R s m args meth c 5 cX3_readActs RX3 n0 s0 5 109) (hr : meth.sig.returnType = (some .int))   {h : AH} {al0 : Nat}  (hw : wb_X3_readActs_46  h al0 post) : AW G p l e R s m args below meth c 5 (QM G (pI post) args s below n0 s0) 46 [(0, .ref (G.1 + al0))] [] h := by
  unfold wb_X3_readActs_46 at hw
  refine r_aload_n C dX3_readActs_46 0 rfl ?_
  refine r_getI C fl_RX3_22_3 hw.1 (fun _ _ _ => rfl) dX3_readActs_47 ?_
  replace hw := hw.2
  exact r_iret C hr dX3_readActs_50 hw
def wb_X3_readActs_17 (K17 : AH → Nat → Nat → Int32 → Prop) (h : AH) (al0 : Nat) (al1 : Nat) (xl4 : Int32)  (post : AH → Int32 → Prop) : Prop := (60 < xl4 → (wb_X3_readActs_46  h al0 post)) ∧ (¬ 60 < xl4 → ((ob h al0 3) ∧ wp_X7_goesOn 3 h al0  (fun hv1 iv2 => (iv2 = 0 → (wb_X3_readActs_46  hv1 al0 post)) ∧ (¬ iv2 = 0 → ((ob hv1 al0 3) ∧ wp_X3_readAct hv1 al0 al1 (fun hv3  => (ob hv3 al0 3) ∧ wp_X7_readStop 3 hv3 al0  (fun hv4  => ∀ iv5 : Int32, iv5 = xl4 + 1 → (K17 hv4 al0 al1 iv5))))))))
set_option maxRecDepth 100000 in
theorem tb_X3_readActs_17 {G : GG} {p : Program} {l : Launch} {e : Env} {R : Room} {s : State} {m : MethodId} {args : Array Value} {below : List Frame} {meth : Method} {c : Code} {n0 s0 : Nat} {post : AH → Int32 → Prop} (C : Cx G p R s m args meth c 5 cX3_readActs RX3 n0 s0 5 109) (hr : meth.sig.returnType = (some .int)) {K17 : AH → Nat → Nat → Int32 → Prop} (hK17 : ∀ (h : AH) (al0 : Nat) (al1 : Nat) (xl4 : Int32), K17 h al0 al1 xl4 → AW G p l e R s m args below meth c 5 (QM G (pI post) args s below n0 s0) 17 [(0, .ref (G.1 + al0)), (1, .ref (G.1 + al1)), (4, .int xl4)] [] h) {h : AH} {al0 : Nat} {al1 : Nat} {xl4 : Int32}  (hw : wb_X3_readActs_17 K17 h al0 al1 xl4 post) : AW G p l e R s m args below meth c 5 (QM G (pI post) args s below n0 s0) 17 [(0, .ref (G.1 + al0)), (1, .ref (G.1 + al1)), (4, .int xl4)] [] h := by
  unfold wb_X3_readActs_17 at hw
  refine r_iload C dX3_readActs_17 2 rfl ?_
  refine r_bipush (v := 60) C dX3_readActs_19 (by decide) ?_
  refine r_icmp_gt C dX3_readActs_21 46 (by decide) (fun hc => ?_) (fun hc => ?_)
  · replace hw := hw.1 hc
    refine r_sub [0] rfl ?_
    exact tb_X3_readActs_46 C hr  hw
  · replace hw := hw.2 hc
    refine r_aload_n C dX3_readActs_24 0 rfl ?_
    have hob := hw.1
    replace hw := hw.2
    refine r_callU C (x := ⟨RX3, "goesOn", "()Z"⟩) (As := []) (rest := []) (c_X7_goesOn (by decide) G h al0  _ hw) yl_X7_goesOn (gm4 (List.mem_of_getElem? (i := 235) rfl) rfl) (gm3 (List.mem_of_getElem? (i := 140) rfl) rfl) (ci := 3) rfl (by decide) (gm4 (List.mem_of_getElem? (i := 236) rfl) rfl) (gm4 (List.mem_of_getElem? (i := 237) rfl) rfl) rfl hob (by decide) rfl (Nat.le_of_ble_eq_true rfl) dX3_readActs_25 rfl (kI fun hv1 iv2 hw => ?_)
    refine r_if_eq C dX3_readActs_28 46 (by decide) (fun hc => ?_) (fun hc => ?_)
    · replace hw := hw.1 hc
      refine r_sub [0] rfl ?_
      exact tb_X3_readActs_46 C hr  hw
    · replace hw := hw.2 hc
      refine r_aload_n C dX3_readActs_31 0 rfl ?_
      refine r_aload_n C dX3_readActs_32 1 rfl ?_
      have hob := hw.1
      replace hw := hw.2
      refine r_callV C (As := [.ref (G.1 + al1)]) (rest := []) (c_X3_readAct G hv1 al0 al1 _ hw) yl_X3_readAct (gm4 (List.mem_of_getElem? (i := 238) rfl) rfl) (gm5 (List.mem_of_getElem? (i := 0) rfl) rfl) (ci := 3) rfl (by decide) (gsel (List.mem_of_getElem? (i := 19) rfl)) hob (by decide) rfl (Nat.le_of_ble_eq_true rfl) dX3_readActs_33 rfl (kV fun hv3  hw => ?_)
      refine r_aload_n C dX3_readActs_36 0 rfl ?_
      have hob := hw.1
      replace hw := hw.2
      refine r_callU C (x := ⟨RX3, "readStop", "()V"⟩) (As := []) (rest := []) (c_X7_readStop (by decide) G hv3 al0  _ hw) yl_X7_readStop (gm5 (List.mem_of_getElem? (i := 14) rfl) rfl) (gm4 (List.mem_of_getElem? (i := 63) rfl) rfl) (ci := 3) rfl (by decide) (gm5 (List.mem_of_getElem? (i := 15) rfl) rfl) (gm5 (List.mem_of_getElem? (i := 16) rfl) rfl) rfl hob (by decide) rfl (Nat.le_of_ble_eq_true rfl) dX3_readActs_37 rfl (kV fun hv4  hw => ?_)
      obtain ⟨iv5, eiv5⟩ : ∃ q : Int32, q = xl4 + 1 := ⟨_, rfl⟩
      replace hw := hw iv5 eiv5
      refine r_iinc C dX3_readActs_40 2 rfl (by rw [eiv5]; rfl) [(4, .int iv5), (0, .ref (G.1 + al0)), (1, .ref (G.1 + al1))] (by decide) rfl ?_
      refine r_goto C dX3_readActs_43 17 (by decide) ?_
      refine r_sub [1, 2, 0] rfl ?_
      exact hK17 _ _ _ _ hw
def wl_X3_readActs_17  (post : AH → Int32 → Prop) : Nat → AH → Nat → Nat → Int32 → Prop
  | 0 => fun _ _ _ _ => False
  | n + 1 => fun h al0 al1 xl4 => wb_X3_readActs_17  (wl_X3_readActs_17  post n) h al0 al1 xl4 post
theorem tl_X3_readActs_17 {G : GG} {p : Program} {l : Launch} {e : Env} {R : Room} {s : State} {m : MethodId} {args : Array Value} {below : List Frame} {meth : Method} {c : Code} {n0 s0 : Nat} {post : AH → Int32 → Prop} (C : Cx G p R s m args meth c 5 cX3_readActs RX3 n0 s0 5 109) (hr : meth.sig.returnType = (some .int))   : ∀ (n : Nat) (h : AH) (al0 : Nat) (al1 : Nat) (xl4 : Int32), wl_X3_readActs_17  post n h al0 al1 xl4 → AW G p l e R s m args below meth c 5 (QM G (pI post) args s below n0 s0) 17 [(0, .ref (G.1 + al0)), (1, .ref (G.1 + al1)), (4, .int xl4)] [] h := by
  intro n
  induction n with
  | zero => intro h al0 al1 xl4 hw; exact hw.elim
  | succ n ih => intro h al0 al1 xl4 hw; exact tb_X3_readActs_17 C hr  ih hw
def wp_X3_readActs (h : AH) (a0 : Nat) (a1 : Nat) (a2 : Nat) (x3 : Int32) (post : AH → Int32 → Prop) : Prop := (ob h a0 3) ∧ wp_X7_begin 3 h a0 a2 x3 700 (fun hv1  => (ob hv1 a0 3) ∧ (∀ hv2 : AH, hv2 = hI hv1 a0 12 0 → (∃ n, wl_X3_readActs_17  post n hv2 a0 a1 0)))
set_option maxRecDepth 100000 in
theorem c_X3_readActs (G : GG) (h : AH) (a0 : Nat) (a1 : Nat) (a2 : Nat) (x3 : Int32) (post : AH → Int32 → Prop) (hw : wp_X3_readActs h a0 a1 a2 x3 post) : MC G yX3_readActs cX3_readActs 5 (some .int) 5 109 h [.ref (G.1 + a0), .ref (G.1 + a1), .ref (G.1 + a2), .int x3] (pI post) := by
  refine MC.of (lv := [(0, .ref (G.1 + a0)), (1, .ref (G.1 + a1)), (2, .ref (G.1 + a2)), (3, .int x3)]) (by decide) (Nat.le_of_ble_eq_true rfl) rfl fun p l e R s m args below meth c C hr hnm => ?_
  unfold wp_X3_readActs at hw
  refine r_aload_n C dX3_readActs_0 0 rfl ?_
  refine r_aload_n C dX3_readActs_1 2 rfl ?_
  refine r_iload_n C dX3_readActs_2 3 rfl ?_
  refine r_sipush (v := 700) C dX3_readActs_3 (by decide) ?_
  have hob := hw.1
  replace hw := hw.2
  refine r_callU C (x := ⟨RX3, "begin", "([BII)V"⟩) (As := [.ref (G.1 + a2), .int x3, .int 700]) (rest := []) (c_X7_begin (by decide) G h a0 a2 x3 700 _ hw) yl_X7_begin (gm4 (List.mem_of_getElem? (i := 232) rfl) rfl) (gm3 (List.mem_of_getElem? (i := 119) rfl) rfl) (ci := 3) rfl (by decide) (gm4 (List.mem_of_getElem? (i := 233) rfl) rfl) (gm4 (List.mem_of_getElem? (i := 234) rfl) rfl) rfl hob (by decide) rfl (Nat.le_of_ble_eq_true rfl) dX3_readActs_6 rfl (kV fun hv1  hw => ?_)
  refine r_aload_n C dX3_readActs_9 0 rfl ?_
  refine r_iconst (v := 0) C dX3_readActs_10 (by decide) ?_
  refine r_putI C fp_RX3_22_3 hw.1 rfl dX3_readActs_11 ?_
  replace hw := hw.2
  refine r_toph fun hv2 ehv2 => ?_
  replace hw := hw hv2 ehv2
  refine r_iconst (v := 0) C dX3_readActs_14 (by decide) ?_
  refine r_istore C dX3_readActs_15 [(4, .int 0), (0, .ref (G.1 + a0)), (1, .ref (G.1 + a1)), (2, .ref (G.1 + a2)), (3, .int x3)] (by decide) rfl ?_
  refine r_sub [1, 2, 0] rfl ?_
  obtain ⟨n, hw⟩ := hw
  exact tl_X3_readActs_17 C hr  n _ _ _ _ hw
theorem dX8_init_0 : decode cX8_init 0 = .ok (.aload_n 0, 1) := by decide +kernel
theorem dX8_init_1 : decode cX8_init 1 = .ok (.invokespecial 3, 3) := by decide +kernel
theorem dX8_init_4 : decode cX8_init 4 = .ok (.aload_n 0, 1) := by decide +kernel
theorem dX8_init_5 : decode cX8_init 5 = .ok (.bipush 8, 2) := by decide +kernel
theorem dX8_init_7 : decode cX8_init 7 = .ok (.newarray .int, 2) := by decide +kernel
theorem dX8_init_9 : decode cX8_init 9 = .ok (.putfield 9, 3) := by decide +kernel
theorem dX8_init_12 : decode cX8_init 12 = .ok (.aload_n 0, 1) := by decide +kernel
theorem dX8_init_13 : decode cX8_init 13 = .ok (.bipush 8, 2) := by decide +kernel
theorem dX8_init_15 : decode cX8_init 15 = .ok (.newarray .long, 2) := by decide +kernel
theorem dX8_init_17 : decode cX8_init 17 = .ok (.putfield 15, 3) := by decide +kernel
theorem dX8_init_20 : decode cX8_init 20 = .ok (.aload_n 0, 1) := by decide +kernel
theorem dX8_init_21 : decode cX8_init 21 = .ok (.aload_n 1, 1) := by decide +kernel
theorem dX8_init_22 : decode cX8_init 22 = .ok (.putfield 19, 3) := by decide +kernel
theorem dX8_init_25 : decode cX8_init 25 = .ok (.return_, 1) := by decide +kernel
def wp_X8_init (h : AH) (a0 : Nat) (a1 : Nat) (post : AH → Prop) : Prop := (¬ (8 : Int32) < 0) ∧ ((aN h < 601024 ∧ aS h + (8 : Int32).toNatClampNeg ≤ 7293034) ∧ (∀ (hv1 : AH) (rv2 : Nat), hv1 = hNew h 13 (8 : Int32).toNatClampNeg → rv2 = aN h → ((ob hv1 a0 7) ∧ (∀ hv3 : AH, hv3 = hP hv1 a0 1 rv2 → ((¬ (8 : Int32) < 0) ∧ ((aN hv3 < 601024 ∧ aS hv3 + (8 : Int32).toNatClampNeg ≤ 7293034) ∧ (∀ (hv4 : AH) (rv5 : Nat), hv4 = hNew hv3 14 (8 : Int32).toNatClampNeg → rv5 = aN hv3 → ((ob hv4 a0 7) ∧ (∀ hv6 : AH, hv6 = hP hv4 a0 2 rv5 → ((ob hv6 a0 7) ∧ (∀ hv7 : AH, hv7 = hP hv6 a0 0 a1 → (post hv7))))))))))))
set_option maxRecDepth 100000 in
theorem c_X8_init (G : GG) (h : AH) (a0 : Nat) (a1 : Nat) (post : AH → Prop) (hw : wp_X8_init h a0 a1 post) : MC G yX8_init cX8_init 2 none 1 20 h [.ref (G.1 + a0), .ref (G.1 + a1)] (pV post) := by
  refine MC.of (lv := [(0, .ref (G.1 + a0)), (1, .ref (G.1 + a1))]) (by decide) (Nat.le_of_ble_eq_true rfl) rfl fun p l e R s m args below meth c C hr hnm => ?_
  unfold wp_X8_init at hw
  refine r_aload_n C dX8_init_0 0 rfl ?_
  refine r_objInit C (gm2 (List.mem_of_getElem? (i := 114) rfl) rfl) (gm1 (List.mem_of_getElem? (i := 32) rfl) rfl) (gm1 (List.mem_of_getElem? (i := 33) rfl) rfl) dX8_init_1 ⟨by decide, Nat.le_of_ble_eq_true rfl⟩ ?_
  refine r_aload_n C dX8_init_4 0 rfl ?_
  refine r_bipush (v := 8) C dX8_init_5 (by decide) ?_
  refine r_newI C hw.1 hw.2.1 dX8_init_7 (gm1 (List.mem_of_getElem? (i := 133) rfl) rfl) ?_
  replace hw := hw.2.2
  refine r_topn fun hv1 rv2 ehv1 erv2 => ?_
  replace hw := hw hv1 rv2 ehv1 erv2
  refine r_putPF C ff_RX8_9_7 hnm hw.1 (fun _ _ _ => rfl) dX8_init_9 ?_
  replace hw := hw.2
  refine r_toph fun hv3 ehv3 => ?_
  replace hw := hw hv3 ehv3
  refine r_aload_n C dX8_init_12 0 rfl ?_
  refine r_bipush (v := 8) C dX8_init_13 (by decide) ?_
  refine r_newJ C hw.1 hw.2.1 dX8_init_15 (gm1 (List.mem_of_getElem? (i := 134) rfl) rfl) ?_
  replace hw := hw.2.2
  refine r_topn fun hv4 rv5 ehv4 erv5 => ?_
  replace hw := hw hv4 rv5 ehv4 erv5
  refine r_putPF C ff_RX8_15_7 hnm hw.1 (fun _ _ _ => rfl) dX8_init_17 ?_
  replace hw := hw.2
  refine r_toph fun hv6 ehv6 => ?_
  replace hw := hw hv6 ehv6
  refine r_aload_n C dX8_init_20 0 rfl ?_
  refine r_aload_n C dX8_init_21 1 rfl ?_
  refine r_putP C fp_RX8_19_7 hw.1 (fun _ _ _ => rfl) dX8_init_22 ?_
  replace hw := hw.2
  refine r_toph fun hv7 ehv7 => ?_
  replace hw := hw hv7 ehv7
  exact r_vret C hr dX8_init_25 hw
theorem dX5_init_0 : decode cX5_init 0 = .ok (.aload_n 0, 1) := by decide +kernel
theorem dX5_init_1 : decode cX5_init 1 = .ok (.invokespecial 3, 3) := by decide +kernel
theorem dX5_init_4 : decode cX5_init 4 = .ok (.aload_n 0, 1) := by decide +kernel
theorem dX5_init_5 : decode cX5_init 5 = .ok (.new 9, 3) := by decide +kernel
theorem dX5_init_8 : decode cX5_init 8 = .ok (.dup, 1) := by decide +kernel
theorem dX5_init_9 : decode cX5_init 9 = .ok (.invokespecial 11, 3) := by decide +kernel
theorem dX5_init_12 : decode cX5_init 12 = .ok (.putfield 12, 3) := by decide +kernel
theorem dX5_init_15 : decode cX5_init 15 = .ok (.aload_n 0, 1) := by decide +kernel
theorem dX5_init_16 : decode cX5_init 16 = .ok (.new 18, 3) := by decide +kernel
theorem dX5_init_19 : decode cX5_init 19 = .ok (.dup, 1) := by decide +kernel
theorem dX5_init_20 : decode cX5_init 20 = .ok (.aload_n 0, 1) := by decide +kernel
theorem dX5_init_21 : decode cX5_init 21 = .ok (.getfield 12, 3) := by decide +kernel
theorem dX5_init_24 : decode cX5_init 24 = .ok (.invokespecial 20, 3) := by decide +kernel
theorem dX5_init_27 : decode cX5_init 27 = .ok (.putfield 23, 3) := by decide +kernel
theorem dX5_init_30 : decode cX5_init 30 = .ok (.aload_n 0, 1) := by decide +kernel
theorem dX5_init_31 : decode cX5_init 31 = .ok (.bipush 60, 2) := by decide +kernel
theorem dX5_init_33 : decode cX5_init 33 = .ok (.newarray .int, 2) := by decide +kernel
theorem dX5_init_35 : decode cX5_init 35 = .ok (.putfield 27, 3) := by decide +kernel
theorem dX5_init_38 : decode cX5_init 38 = .ok (.aload_n 0, 1) := by decide +kernel
theorem dX5_init_39 : decode cX5_init 39 = .ok (.bipush 60, 2) := by decide +kernel
theorem dX5_init_41 : decode cX5_init 41 = .ok (.newarray .int, 2) := by decide +kernel
theorem dX5_init_43 : decode cX5_init 43 = .ok (.putfield 31, 3) := by decide +kernel
theorem dX5_init_46 : decode cX5_init 46 = .ok (.return_, 1) := by decide +kernel
def wp_X5_init (h : AH) (a0 : Nat) (post : AH → Prop) : Prop := (aN h < 601024 ∧ aS h + 16 ≤ 7293034) ∧ (∀ (hv1 : AH) (rv2 : Nat), hv1 = hNew h 1 16 → rv2 = aN h → (wp_X1_init hv1 rv2  (fun hv3  => (ob hv3 a0 5) ∧ (∀ hv4 : AH, hv4 = hP hv3 a0 0 rv2 → ((aN hv4 < 601024 ∧ aS hv4 + 3 ≤ 7293034) ∧ (∀ (hv5 : AH) (rv6 : Nat), hv5 = hNew hv4 7 3 → rv6 = aN hv4 → ((ob hv5 a0 5) ∧ (∃ rv7, aP hv5 a0 0 = some rv7 ∧ (wp_X8_init hv5 rv6 rv7 (fun hv8  => (ob hv8 a0 5) ∧ (∀ hv9 : AH, hv9 = hP hv8 a0 1 rv6 → ((¬ (60 : Int32) < 0) ∧ ((aN hv9 < 601024 ∧ aS hv9 + (60 : Int32).toNatClampNeg ≤ 7293034) ∧ (∀ (hv10 : AH) (rv11 : Nat), hv10 = hNew hv9 13 (60 : Int32).toNatClampNeg → rv11 = aN hv9 → ((ob hv10 a0 5) ∧ (∀ hv12 : AH, hv12 = hP hv10 a0 3 rv11 → ((¬ (60 : Int32) < 0) ∧ ((aN hv12 < 601024 ∧ aS hv12 + (60 : Int32).toNatClampNeg ≤ 7293034) ∧ (∀ (hv13 : AH) (rv14 : Nat), hv13 = hNew hv12 13 (60 : Int32).toNatClampNeg → rv14 = aN hv12 → ((ob hv13 a0 5) ∧ (∀ hv15 : AH, hv15 = hP hv13 a0 4 rv14 → (post hv15))))))))))))))))))))))
set_option maxRecDepth 100000 in
theorem c_X5_init (G : GG) (h : AH) (a0 : Nat) (post : AH → Prop) (hw : wp_X5_init h a0 post) : MC G yX5_init cX5_init 1 none 3 60 h [.ref (G.1 + a0)] (pV post) := by
  refine MC.of (lv := [(0, .ref (G.1 + a0))]) (by decide) (Nat.le_of_ble_eq_true rfl) rfl fun p l e R s m args below meth c C hr hnm => ?_
  unfold wp_X5_init at hw
  refine r_aload_n C dX5_init_0 0 rfl ?_
  refine r_objInit C (gm2 (List.mem_of_getElem? (i := 106) rfl) rfl) (gm1 (List.mem_of_getElem? (i := 32) rfl) rfl) (gm1 (List.mem_of_getElem? (i := 33) rfl) rfl) dX5_init_1 ⟨by decide, Nat.le_of_ble_eq_true rfl⟩ ?_
  refine r_aload_n C dX5_init_4 0 rfl ?_
  refine r_new C (ci := 1) nl_RX5_9 hw.1 dX5_init_5 ?_
  replace hw := hw.2
  refine r_topn fun hv1 rv2 ehv1 erv2 => ?_
  replace hw := hw hv1 rv2 ehv1 erv2
  refine r_dup C dX5_init_8 rfl ?_
  refine r_callI C (As := []) (rest := [.ref (G.1 + rv2), .ref (G.1 + a0)]) (c_X1_init G hv1 rv2  _ hw) yl_X1_init (gm2 (List.mem_of_getElem? (i := 108) rfl) rfl) (gm1 (List.mem_of_getElem? (i := 95) rfl) rfl) rfl (by decide) rfl (Nat.le_of_ble_eq_true rfl) dX5_init_9 rfl (kV fun hv3  hw => ?_)
  refine r_putP C fp_RX5_12_5 hw.1 (fun _ _ _ => rfl) dX5_init_12 ?_
  replace hw := hw.2
  refine r_toph fun hv4 ehv4 => ?_
  replace hw := hw hv4 ehv4
  refine r_aload_n C dX5_init_15 0 rfl ?_
  refine r_new C (ci := 7) nl_RX5_18 hw.1 dX5_init_16 ?_
  replace hw := hw.2
  refine r_topn fun hv5 rv6 ehv5 erv6 => ?_
  replace hw := hw hv5 rv6 ehv5 erv6
  refine r_dup C dX5_init_19 rfl ?_
  refine r_aload_n C dX5_init_20 0 rfl ?_
  have hob := hw.1
  obtain ⟨rv7, hp, hw⟩ := hw.2
  refine r_getP C fl_RX5_12_5 hob hp (fun _ _ _ => rfl) dX5_init_21 ?_
  refine r_callI C (As := [.ref (G.1 + rv7)]) (rest := [.ref (G.1 + rv6), .ref (G.1 + a0)]) (c_X8_init G hv5 rv6 rv7 _ hw) yl_X8_init (gm2 (List.mem_of_getElem? (i := 111) rfl) rfl) (gm2 (List.mem_of_getElem? (i := 112) rfl) rfl) rfl (by decide) rfl (Nat.le_of_ble_eq_true rfl) dX5_init_24 rfl (kV fun hv8  hw => ?_)
  refine r_putPF C ff_RX5_23_5 hnm hw.1 (fun _ _ _ => rfl) dX5_init_27 ?_
  replace hw := hw.2
  refine r_toph fun hv9 ehv9 => ?_
  replace hw := hw hv9 ehv9
  refine r_aload_n C dX5_init_30 0 rfl ?_
  refine r_bipush (v := 60) C dX5_init_31 (by decide) ?_
  refine r_newI C hw.1 hw.2.1 dX5_init_33 (gm1 (List.mem_of_getElem? (i := 133) rfl) rfl) ?_
  replace hw := hw.2.2
  refine r_topn fun hv10 rv11 ehv10 erv11 => ?_
  replace hw := hw hv10 rv11 ehv10 erv11
  refine r_putPF C ff_RX5_27_5 hnm hw.1 (fun _ _ _ => rfl) dX5_init_35 ?_
  replace hw := hw.2
  refine r_toph fun hv12 ehv12 => ?_
  replace hw := hw hv12 ehv12
  refine r_aload_n C dX5_init_38 0 rfl ?_
  refine r_bipush (v := 60) C dX5_init_39 (by decide) ?_
  refine r_newI C hw.1 hw.2.1 dX5_init_41 (gm1 (List.mem_of_getElem? (i := 133) rfl) rfl) ?_
  replace hw := hw.2.2
  refine r_topn fun hv13 rv14 ehv13 erv14 => ?_
  replace hw := hw hv13 rv14 ehv13 erv14
  refine r_putPF C ff_RX5_31_5 hnm hw.1 (fun _ _ _ => rfl) dX5_init_43 ?_
  replace hw := hw.2
  refine r_toph fun hv15 ehv15 => ?_
  replace hw := hw hv15 ehv15
  exact r_vret C hr dX5_init_46 hw
theorem dX8_put_0 : decode cX8_put 0 = .ok (.aload_n 0, 1) := by decide +kernel
theorem dX8_put_1 : decode cX8_put 1 = .ok (.getfield 9, 3) := by decide +kernel
theorem dX8_put_4 : decode cX8_put 4 = .ok (.iload_n 1, 1) := by decide +kernel
theorem dX8_put_5 : decode cX8_put 5 = .ok (.iload_n 2, 1) := by decide +kernel
theorem dX8_put_6 : decode cX8_put 6 = .ok (.iastore, 1) := by decide +kernel
theorem dX8_put_7 : decode cX8_put 7 = .ok (.aload_n 0, 1) := by decide +kernel
theorem dX8_put_8 : decode cX8_put 8 = .ok (.getfield 15, 3) := by decide +kernel
theorem dX8_put_11 : decode cX8_put 11 = .ok (.iload_n 1, 1) := by decide +kernel
theorem dX8_put_12 : decode cX8_put 12 = .ok (.aload_n 0, 1) := by decide +kernel
theorem dX8_put_13 : decode cX8_put 13 = .ok (.getfield 19, 3) := by decide +kernel
theorem dX8_put_16 : decode cX8_put 16 = .ok (.iload_n 1, 1) := by decide +kernel
theorem dX8_put_17 : decode cX8_put 17 = .ok (.iload_n 2, 1) := by decide +kernel
theorem dX8_put_18 : decode cX8_put 18 = .ok (.invokevirtual 42, 3) := by decide +kernel
theorem dX8_put_21 : decode cX8_put 21 = .ok (.lastore, 1) := by decide +kernel
theorem dX8_put_22 : decode cX8_put 22 = .ok (.return_, 1) := by decide +kernel
def wp_X8_put (h : AH) (a0 : Nat) (x1 : Int32) (x2 : Int32) (post : AH → Prop) : Prop := (ob h a0 7) ∧ (∃ rv1, aP h a0 1 = some rv1 ∧ ((ob h rv1 13) ∧ ((vp_in x1 (aL h rv1)) ∧ (∀ hv2 : AH, hv2 = hI h rv1 x1.toNatClampNeg x2 → ((ob hv2 a0 7) ∧ (∃ rv3, aP hv2 a0 2 = some rv3 ∧ ((ob hv2 a0 7) ∧ (∃ rv4, aP hv2 a0 0 = some rv4 ∧ ((ob hv2 rv4 1) ∧ wp_X1_coverAt hv2 rv4 x1 x2 (fun hv5 jv6 => (ob hv5 rv3 14) ∧ ((vp_in x1 (aL hv5 rv3)) ∧ (∀ hv7 : AH, hv7 = hJ hv5 rv3 x1.toNatClampNeg jv6 → (post hv7)))))))))))))
set_option maxRecDepth 100000 in
theorem c_X8_put (G : GG) (h : AH) (a0 : Nat) (x1 : Int32) (x2 : Int32) (post : AH → Prop) (hw : wp_X8_put h a0 x1 x2 post) : MC G yX8_put cX8_put 3 none 2 48 h [.ref (G.1 + a0), .int x1, .int x2] (pV post) := by
  refine MC.of (lv := [(0, .ref (G.1 + a0)), (1, .int x1), (2, .int x2)]) (by decide) (Nat.le_of_ble_eq_true rfl) rfl fun p l e R s m args below meth c C hr hnm => ?_
  unfold wp_X8_put at hw
  refine r_aload_n C dX8_put_0 0 rfl ?_
  have hob := hw.1
  obtain ⟨rv1, hp, hw⟩ := hw.2
  refine r_getP C fl_RX8_9_7 hob hp (fun _ _ _ => rfl) dX8_put_1 ?_
  refine r_iload_n C dX8_put_4 1 rfl ?_
  refine r_iload_n C dX8_put_5 2 rfl ?_
  refine r_iastore C hw.1 hw.2.1 dX8_put_6 ?_
  replace hw := hw.2.2
  refine r_toph fun hv2 ehv2 => ?_
  replace hw := hw hv2 ehv2
  refine r_aload_n C dX8_put_7 0 rfl ?_
  have hob := hw.1
  obtain ⟨rv3, hp, hw⟩ := hw.2
  refine r_getP C fl_RX8_15_7 hob hp (fun _ _ _ => rfl) dX8_put_8 ?_
  refine r_iload_n C dX8_put_11 1 rfl ?_
  refine r_aload_n C dX8_put_12 0 rfl ?_
  have hob := hw.1
  obtain ⟨rv4, hp, hw⟩ := hw.2
  refine r_getP C fl_RX8_19_7 hob hp (fun _ _ _ => rfl) dX8_put_13 ?_
  refine r_iload_n C dX8_put_16 1 rfl ?_
  refine r_iload_n C dX8_put_17 2 rfl ?_
  have hob := hw.1
  replace hw := hw.2
  refine r_callV C (As := [.int x1, .int x2]) (rest := [.int x1, .ref (G.1 + rv3)]) (c_X1_coverAt G hv2 rv4 x1 x2 _ hw) yl_X1_coverAt (gm4 (List.mem_of_getElem? (i := 77) rfl) rfl) (gm3 (List.mem_of_getElem? (i := 223) rfl) rfl) (ci := 1) rfl (by decide) (gm3 (List.mem_of_getElem? (i := 224) rfl) rfl) hob (by decide) rfl (Nat.le_of_ble_eq_true rfl) dX8_put_18 rfl (kJ fun hv5 jv6 hw => ?_)
  refine r_lastore C hw.1 hw.2.1 dX8_put_21 ?_
  replace hw := hw.2.2
  refine r_toph fun hv7 ehv7 => ?_
  replace hw := hw hv7 ehv7
  exact r_vret C hr dX8_put_22 hw
theorem dX8_settle_0 : decode cX8_settle 0 = .ok (.aload_n 0, 1) := by decide +kernel
theorem dX8_settle_1 : decode cX8_settle 1 = .ok (.aload_n 1, 1) := by decide +kernel
theorem dX8_settle_2 : decode cX8_settle 2 = .ok (.putfield 19, 3) := by decide +kernel
theorem dX8_settle_5 : decode cX8_settle 5 = .ok (.iconst 0, 1) := by decide +kernel
theorem dX8_settle_6 : decode cX8_settle 6 = .ok (.istore_n 2, 1) := by decide +kernel
theorem dX8_settle_7 : decode cX8_settle 7 = .ok (.iload_n 2, 1) := by decide +kernel
theorem dX8_settle_8 : decode cX8_settle 8 = .ok (.aload_n 1, 1) := by decide +kernel
theorem dX8_settle_9 : decode cX8_settle 9 = .ok (.getfield 23, 3) := by decide +kernel
theorem dX8_settle_12 : decode cX8_settle 12 = .ok (.if_icmp .ge 20, 3) := by decide +kernel
theorem dX8_settle_15 : decode cX8_settle 15 = .ok (.aload_n 0, 1) := by decide +kernel
theorem dX8_settle_16 : decode cX8_settle 16 = .ok (.iload_n 2, 1) := by decide +kernel
theorem dX8_settle_17 : decode cX8_settle 17 = .ok (.aload_n 1, 1) := by decide +kernel
theorem dX8_settle_18 : decode cX8_settle 18 = .ok (.getfield 29, 3) := by decide +kernel
theorem dX8_settle_21 : decode cX8_settle 21 = .ok (.iload_n 2, 1) := by decide +kernel
theorem dX8_settle_22 : decode cX8_settle 22 = .ok (.iaload, 1) := by decide +kernel
theorem dX8_settle_23 : decode cX8_settle 23 = .ok (.invokevirtual 32, 3) := by decide +kernel
theorem dX8_settle_26 : decode cX8_settle 26 = .ok (.iinc 2 1, 3) := by decide +kernel
theorem dX8_settle_29 : decode cX8_settle 29 = .ok (.goto (-22), 3) := by decide +kernel
theorem dX8_settle_32 : decode cX8_settle 32 = .ok (.return_, 1) := by decide +kernel
def wb_X8_settle_7 (K7 : AH → Nat → Nat → Int32 → Prop) (h : AH) (al0 : Nat) (al1 : Nat) (xl2 : Int32)  (post : AH → Prop) : Prop := (ob h al1 1) ∧ (((aI h al1 5) ≤ xl2 → (post h)) ∧ (¬ (aI h al1 5) ≤ xl2 → ((ob h al1 1) ∧ (∃ rv1, aP h al1 10 = some rv1 ∧ ((ob h rv1 13) ∧ ((vp_in xl2 (aL h rv1)) ∧ ((ob h al0 7) ∧ wp_X8_put h al0 xl2 (aI h rv1 xl2.toNatClampNeg) (fun hv2  => ∀ iv3 : Int32, iv3 = xl2 + 1 → (K7 hv2 al0 al1 iv3)))))))))
set_option maxRecDepth 100000 in
theorem tb_X8_settle_7 {G : GG} {p : Program} {l : Launch} {e : Env} {R : Room} {s : State} {m : MethodId} {args : Array Value} {below : List Frame} {meth : Method} {c : Code} {n0 s0 : Nat} {post : AH → Prop} (C : Cx G p R s m args meth c 3 cX8_settle RX8 n0 s0 3 70) (hr : meth.sig.returnType = none) {K7 : AH → Nat → Nat → Int32 → Prop} (hK7 : ∀ (h : AH) (al0 : Nat) (al1 : Nat) (xl2 : Int32), K7 h al0 al1 xl2 → AW G p l e R s m args below meth c 3 (QM G (pV post) args s below n0 s0) 7 [(0, .ref (G.1 + al0)), (1, .ref (G.1 + al1)), (2, .int xl2)] [] h) {h : AH} {al0 : Nat} {al1 : Nat} {xl2 : Int32}  (hw : wb_X8_settle_7 K7 h al0 al1 xl2 post) : AW G p l e R s m args below meth c 3 (QM G (pV post) args s below n0 s0) 7 [(0, .ref (G.1 + al0)), (1, .ref (G.1 + al1)), (2, .int xl2)] [] h := by
  unfold wb_X8_settle_7 at hw
  refine r_iload_n C dX8_settle_7 2 rfl ?_
  refine r_aload_n C dX8_settle_8 1 rfl ?_
  refine r_getI C fl_RX8_23_1 hw.1 (fun _ _ _ => rfl) dX8_settle_9 ?_
  replace hw := hw.2
  refine r_icmp_ge C dX8_settle_12 32 (by decide) (fun hc => ?_) (fun hc => ?_)
  · replace hw := hw.1 hc
    exact r_vret C hr dX8_settle_32 hw
  · replace hw := hw.2 hc
    refine r_aload_n C dX8_settle_15 0 rfl ?_
    refine r_iload_n C dX8_settle_16 2 rfl ?_
    refine r_aload_n C dX8_settle_17 1 rfl ?_
    have hob := hw.1
    obtain ⟨rv1, hp, hw⟩ := hw.2
    refine r_getP C fl_RX8_29_1 hob hp (fun _ _ _ => rfl) dX8_settle_18 ?_
    refine r_iload_n C dX8_settle_21 2 rfl ?_
    refine r_iaload C hw.1 hw.2.1 dX8_settle_22 ?_
    replace hw := hw.2.2
    have hob := hw.1
    replace hw := hw.2
    refine r_callV C (As := [.int xl2, .int (aI h rv1 xl2.toNatClampNeg)]) (rest := []) (c_X8_put G h al0 xl2 (aI h rv1 xl2.toNatClampNeg) _ hw) yl_X8_put (gm4 (List.mem_of_getElem? (i := 73) rfl) rfl) (gm4 (List.mem_of_getElem? (i := 74) rfl) rfl) (ci := 7) rfl (by decide) (gm4 (List.mem_of_getElem? (i := 75) rfl) rfl) hob (by decide) rfl (Nat.le_of_ble_eq_true rfl) dX8_settle_23 rfl (kV fun hv2  hw => ?_)
    obtain ⟨iv3, eiv3⟩ : ∃ q : Int32, q = xl2 + 1 := ⟨_, rfl⟩
    replace hw := hw iv3 eiv3
    refine r_iinc C dX8_settle_26 2 rfl (by rw [eiv3]; rfl) [(2, .int iv3), (0, .ref (G.1 + al0)), (1, .ref (G.1 + al1))] (by decide) rfl ?_
    refine r_goto C dX8_settle_29 7 (by decide) ?_
    refine r_sub [1, 2, 0] rfl ?_
    exact hK7 _ _ _ _ hw
def wl_X8_settle_7  (post : AH → Prop) : Nat → AH → Nat → Nat → Int32 → Prop
  | 0 => fun _ _ _ _ => False
  | n + 1 => fun h al0 al1 xl2 => wb_X8_settle_7  (wl_X8_settle_7  post n) h al0 al1 xl2 post
theorem tl_X8_settle_7 {G : GG} {p : Program} {l : Launch} {e : Env} {R : Room} {s : State} {m : MethodId} {args : Array Value} {below : List Frame} {meth : Method} {c : Code} {n0 s0 : Nat} {post : AH → Prop} (C : Cx G p R s m args meth c 3 cX8_settle RX8 n0 s0 3 70) (hr : meth.sig.returnType = none)   : ∀ (n : Nat) (h : AH) (al0 : Nat) (al1 : Nat) (xl2 : Int32), wl_X8_settle_7  post n h al0 al1 xl2 → AW G p l e R s m args below meth c 3 (QM G (pV post) args s below n0 s0) 7 [(0, .ref (G.1 + al0)), (1, .ref (G.1 + al1)), (2, .int xl2)] [] h := by
  intro n
  induction n with
  | zero => intro h al0 al1 xl2 hw; exact hw.elim
  | succ n ih => intro h al0 al1 xl2 hw; exact tb_X8_settle_7 C hr  ih hw
def wp_X8_settle (h : AH) (a0 : Nat) (a1 : Nat) (post : AH → Prop) : Prop := (ob h a0 7) ∧ (∀ hv1 : AH, hv1 = hP h a0 0 a1 → (∃ n, wl_X8_settle_7  post n hv1 a0 a1 0))
set_option maxRecDepth 100000 in
theorem c_X8_settle (G : GG) (h : AH) (a0 : Nat) (a1 : Nat) (post : AH → Prop) (hw : wp_X8_settle h a0 a1 post) : MC G yX8_settle cX8_settle 3 none 3 70 h [.ref (G.1 + a0), .ref (G.1 + a1)] (pV post) := by
  refine MC.of (lv := [(0, .ref (G.1 + a0)), (1, .ref (G.1 + a1))]) (by decide) (Nat.le_of_ble_eq_true rfl) rfl fun p l e R s m args below meth c C hr hnm => ?_
  unfold wp_X8_settle at hw
  refine r_aload_n C dX8_settle_0 0 rfl ?_
  refine r_aload_n C dX8_settle_1 1 rfl ?_
  refine r_putP C fp_RX8_19_7 hw.1 (fun _ _ _ => rfl) dX8_settle_2 ?_
  replace hw := hw.2
  refine r_toph fun hv1 ehv1 => ?_
  replace hw := hw hv1 ehv1
  refine r_iconst (v := 0) C dX8_settle_5 (by decide) ?_
  refine r_istore_n C dX8_settle_6 [(2, .int 0), (0, .ref (G.1 + a0)), (1, .ref (G.1 + a1))] (by decide) rfl ?_
  refine r_sub [1, 2, 0] rfl ?_
  obtain ⟨n, hw⟩ := hw
  exact tl_X8_settle_7 C hr  n _ _ _ _ hw
theorem dX5_begin_0 : decode cX5_begin 0 = .ok (.aload_n 0, 1) := by decide +kernel
theorem dX5_begin_1 : decode cX5_begin 1 = .ok (.getfield 12, 3) := by decide +kernel
theorem dX5_begin_4 : decode cX5_begin 4 = .ok (.astore_n 2, 1) := by decide +kernel
theorem dX5_begin_5 : decode cX5_begin 5 = .ok (.aload_n 0, 1) := by decide +kernel
theorem dX5_begin_6 : decode cX5_begin 6 = .ok (.aload_n 1, 1) := by decide +kernel
theorem dX5_begin_7 : decode cX5_begin 7 = .ok (.putfield 12, 3) := by decide +kernel
theorem dX5_begin_10 : decode cX5_begin 10 = .ok (.aload_n 0, 1) := by decide +kernel
theorem dX5_begin_11 : decode cX5_begin 11 = .ok (.getfield 23, 3) := by decide +kernel
theorem dX5_begin_14 : decode cX5_begin 14 = .ok (.aload_n 1, 1) := by decide +kernel
theorem dX5_begin_15 : decode cX5_begin 15 = .ok (.invokevirtual 34, 3) := by decide +kernel
theorem dX5_begin_18 : decode cX5_begin 18 = .ok (.aload_n 0, 1) := by decide +kernel
theorem dX5_begin_19 : decode cX5_begin 19 = .ok (.iconst 0, 1) := by decide +kernel
theorem dX5_begin_20 : decode cX5_begin 20 = .ok (.putfield 37, 3) := by decide +kernel
theorem dX5_begin_23 : decode cX5_begin 23 = .ok (.aload_n 2, 1) := by decide +kernel
theorem dX5_begin_24 : decode cX5_begin 24 = .ok (.areturn, 1) := by decide +kernel
def wp_X5_begin (h : AH) (a0 : Nat) (a1 : Nat) (post : AH → Nat → Prop) : Prop := (ob h a0 5) ∧ (∃ rv1, aP h a0 0 = some rv1 ∧ ((ob h a0 5) ∧ (∀ hv2 : AH, hv2 = hP h a0 0 a1 → ((ob hv2 a0 5) ∧ (∃ rv3, aP hv2 a0 1 = some rv3 ∧ ((ob hv2 rv3 7) ∧ wp_X8_settle hv2 rv3 a1 (fun hv4  => (ob hv4 a0 5) ∧ (∀ hv5 : AH, hv5 = hI hv4 a0 2 0 → (post hv5 rv1)))))))))
set_option maxRecDepth 100000 in
theorem c_X5_begin (G : GG) (h : AH) (a0 : Nat) (a1 : Nat) (post : AH → Nat → Prop) (hw : wp_X5_begin h a0 a1 post) : MC G yX5_begin cX5_begin 3 (some (.object "RaftTown$Lagoon")) 4 92 h [.ref (G.1 + a0), .ref (G.1 + a1)] (pP G post) := by
  refine MC.of (lv := [(0, .ref (G.1 + a0)), (1, .ref (G.1 + a1))]) (by decide) (Nat.le_of_ble_eq_true rfl) rfl fun p l e R s m args below meth c C hr hnm => ?_
  unfold wp_X5_begin at hw
  refine r_aload_n C dX5_begin_0 0 rfl ?_
  have hob := hw.1
  obtain ⟨rv1, hp, hw⟩ := hw.2
  refine r_getP C fl_RX5_12_5 hob hp (fun _ _ _ => rfl) dX5_begin_1 ?_
  refine r_astore_n C dX5_begin_4 [(2, .ref (G.1 + rv1)), (0, .ref (G.1 + a0)), (1, .ref (G.1 + a1))] (by decide) rfl ?_
  refine r_aload_n C dX5_begin_5 1 rfl ?_
  refine r_aload_n C dX5_begin_6 2 rfl ?_
  refine r_putP C fp_RX5_12_5 hw.1 (fun _ _ _ => rfl) dX5_begin_7 ?_
  replace hw := hw.2
  refine r_toph fun hv2 ehv2 => ?_
  replace hw := hw hv2 ehv2
  refine r_aload_n C dX5_begin_10 1 rfl ?_
  have hob := hw.1
  obtain ⟨rv3, hp, hw⟩ := hw.2
  refine r_getP C fl_RX5_23_5 hob hp (fun _ _ _ => rfl) dX5_begin_11 ?_
  refine r_aload_n C dX5_begin_14 2 rfl ?_
  have hob := hw.1
  replace hw := hw.2
  refine r_callV C (As := [.ref (G.1 + a1)]) (rest := []) (c_X8_settle G hv2 rv3 a1 _ hw) yl_X8_settle (gm4 (List.mem_of_getElem? (i := 69) rfl) rfl) (gm4 (List.mem_of_getElem? (i := 70) rfl) rfl) (ci := 7) rfl (by decide) (gm4 (List.mem_of_getElem? (i := 71) rfl) rfl) hob (by decide) rfl (Nat.le_of_ble_eq_true rfl) dX5_begin_15 rfl (kV fun hv4  hw => ?_)
  refine r_aload_n C dX5_begin_18 1 rfl ?_
  refine r_iconst (v := 0) C dX5_begin_19 (by decide) ?_
  refine r_putI C fp_RX5_37_5 hw.1 rfl dX5_begin_20 ?_
  replace hw := hw.2
  refine r_toph fun hv5 ehv5 => ?_
  replace hw := hw hv5 ehv5
  refine r_aload_n C dX5_begin_23 0 rfl ?_
  exact r_aret C hr (Or.inl ⟨_, rfl⟩) dX5_begin_24 hw
theorem dX5_setActs_0 : decode cX5_setActs 0 = .ok (.aload_n 0, 1) := by decide +kernel
theorem dX5_setActs_1 : decode cX5_setActs 1 = .ok (.iload_n 1, 1) := by decide +kernel
theorem dX5_setActs_2 : decode cX5_setActs 2 = .ok (.bipush 60, 2) := by decide +kernel
theorem dX5_setActs_4 : decode cX5_setActs 4 = .ok (.invokestatic 41, 3) := by decide +kernel
theorem dX5_setActs_7 : decode cX5_setActs 7 = .ok (.putfield 37, 3) := by decide +kernel
theorem dX5_setActs_10 : decode cX5_setActs 10 = .ok (.iconst 0, 1) := by decide +kernel
theorem dX5_setActs_11 : decode cX5_setActs 11 = .ok (.istore 4, 2) := by decide +kernel
theorem dX5_setActs_13 : decode cX5_setActs 13 = .ok (.iload 4, 2) := by decide +kernel
theorem dX5_setActs_15 : decode cX5_setActs 15 = .ok (.aload_n 0, 1) := by decide +kernel
theorem dX5_setActs_16 : decode cX5_setActs 16 = .ok (.getfield 37, 3) := by decide +kernel
theorem dX5_setActs_19 : decode cX5_setActs 19 = .ok (.if_icmp .ge 31, 3) := by decide +kernel
theorem dX5_setActs_22 : decode cX5_setActs 22 = .ok (.aload_n 0, 1) := by decide +kernel
theorem dX5_setActs_23 : decode cX5_setActs 23 = .ok (.getfield 27, 3) := by decide +kernel
theorem dX5_setActs_26 : decode cX5_setActs 26 = .ok (.iload 4, 2) := by decide +kernel
theorem dX5_setActs_28 : decode cX5_setActs 28 = .ok (.aload_n 2, 1) := by decide +kernel
theorem dX5_setActs_29 : decode cX5_setActs 29 = .ok (.iload 4, 2) := by decide +kernel
theorem dX5_setActs_31 : decode cX5_setActs 31 = .ok (.iaload, 1) := by decide +kernel
theorem dX5_setActs_32 : decode cX5_setActs 32 = .ok (.iastore, 1) := by decide +kernel
theorem dX5_setActs_33 : decode cX5_setActs 33 = .ok (.aload_n 0, 1) := by decide +kernel
theorem dX5_setActs_34 : decode cX5_setActs 34 = .ok (.getfield 31, 3) := by decide +kernel
theorem dX5_setActs_37 : decode cX5_setActs 37 = .ok (.iload 4, 2) := by decide +kernel
theorem dX5_setActs_39 : decode cX5_setActs 39 = .ok (.aload_n 3, 1) := by decide +kernel
theorem dX5_setActs_40 : decode cX5_setActs 40 = .ok (.iload 4, 2) := by decide +kernel
theorem dX5_setActs_42 : decode cX5_setActs 42 = .ok (.iaload, 1) := by decide +kernel
theorem dX5_setActs_43 : decode cX5_setActs 43 = .ok (.iastore, 1) := by decide +kernel
theorem dX5_setActs_44 : decode cX5_setActs 44 = .ok (.iinc 4 1, 3) := by decide +kernel
theorem dX5_setActs_47 : decode cX5_setActs 47 = .ok (.goto (-34), 3) := by decide +kernel
theorem dX5_setActs_50 : decode cX5_setActs 50 = .ok (.return_, 1) := by decide +kernel
def wb_X5_setActs_13 (K13 : AH → Nat → Nat → Nat → Int32 → Prop) (h : AH) (al0 : Nat) (al2 : Nat) (al3 : Nat) (xl4 : Int32)  (post : AH → Prop) : Prop := (ob h al0 5) ∧ (((aI h al0 2) ≤ xl4 → (post h)) ∧ (¬ (aI h al0 2) ≤ xl4 → ((ob h al0 5) ∧ (∃ rv1, aP h al0 3 = some rv1 ∧ ((ob h al2 13) ∧ ((vp_in xl4 (aL h al2)) ∧ ((ob h rv1 13) ∧ ((vp_in xl4 (aL h rv1)) ∧ (∀ hv2 : AH, hv2 = hI h rv1 xl4.toNatClampNeg (aI h al2 xl4.toNatClampNeg) → ((ob hv2 al0 5) ∧ (∃ rv3, aP hv2 al0 4 = some rv3 ∧ ((ob hv2 al3 13) ∧ ((vp_in xl4 (aL hv2 al3)) ∧ ((ob hv2 rv3 13) ∧ ((vp_in xl4 (aL hv2 rv3)) ∧ (∀ hv4 : AH, hv4 = hI hv2 rv3 xl4.toNatClampNeg (aI hv2 al3 xl4.toNatClampNeg) → (∀ iv5 : Int32, iv5 = xl4 + 1 → (K13 hv4 al0 al2 al3 iv5))))))))))))))))))
set_option maxRecDepth 100000 in
theorem tb_X5_setActs_13 {G : GG} {p : Program} {l : Launch} {e : Env} {R : Room} {s : State} {m : MethodId} {args : Array Value} {below : List Frame} {meth : Method} {c : Code} {n0 s0 : Nat} {post : AH → Prop} (C : Cx G p R s m args meth c 5 cX5_setActs RX5 n0 s0 1 21) (hr : meth.sig.returnType = none) {K13 : AH → Nat → Nat → Nat → Int32 → Prop} (hK13 : ∀ (h : AH) (al0 : Nat) (al2 : Nat) (al3 : Nat) (xl4 : Int32), K13 h al0 al2 al3 xl4 → AW G p l e R s m args below meth c 5 (QM G (pV post) args s below n0 s0) 13 [(0, .ref (G.1 + al0)), (2, .ref (G.1 + al2)), (3, .ref (G.1 + al3)), (4, .int xl4)] [] h) {h : AH} {al0 : Nat} {al2 : Nat} {al3 : Nat} {xl4 : Int32}  (hw : wb_X5_setActs_13 K13 h al0 al2 al3 xl4 post) : AW G p l e R s m args below meth c 5 (QM G (pV post) args s below n0 s0) 13 [(0, .ref (G.1 + al0)), (2, .ref (G.1 + al2)), (3, .ref (G.1 + al3)), (4, .int xl4)] [] h := by
  unfold wb_X5_setActs_13 at hw
  refine r_iload C dX5_setActs_13 3 rfl ?_
  refine r_aload_n C dX5_setActs_15 0 rfl ?_
  refine r_getI C fl_RX5_37_5 hw.1 (fun _ _ _ => rfl) dX5_setActs_16 ?_
  replace hw := hw.2
  refine r_icmp_ge C dX5_setActs_19 50 (by decide) (fun hc => ?_) (fun hc => ?_)
  · replace hw := hw.1 hc
    exact r_vret C hr dX5_setActs_50 hw
  · replace hw := hw.2 hc
    refine r_aload_n C dX5_setActs_22 0 rfl ?_
    have hob := hw.1
    obtain ⟨rv1, hp, hw⟩ := hw.2
    refine r_getP C fl_RX5_27_5 hob hp (fun _ _ _ => rfl) dX5_setActs_23 ?_
    refine r_iload C dX5_setActs_26 3 rfl ?_
    refine r_aload_n C dX5_setActs_28 1 rfl ?_
    refine r_iload C dX5_setActs_29 3 rfl ?_
    refine r_iaload C hw.1 hw.2.1 dX5_setActs_31 ?_
    replace hw := hw.2.2
    refine r_iastore C hw.1 hw.2.1 dX5_setActs_32 ?_
    replace hw := hw.2.2
    refine r_toph fun hv2 ehv2 => ?_
    replace hw := hw hv2 ehv2
    refine r_aload_n C dX5_setActs_33 0 rfl ?_
    have hob := hw.1
    obtain ⟨rv3, hp, hw⟩ := hw.2
    refine r_getP C fl_RX5_31_5 hob hp (fun _ _ _ => rfl) dX5_setActs_34 ?_
    refine r_iload C dX5_setActs_37 3 rfl ?_
    refine r_aload_n C dX5_setActs_39 2 rfl ?_
    refine r_iload C dX5_setActs_40 3 rfl ?_
    refine r_iaload C hw.1 hw.2.1 dX5_setActs_42 ?_
    replace hw := hw.2.2
    refine r_iastore C hw.1 hw.2.1 dX5_setActs_43 ?_
    replace hw := hw.2.2
    refine r_toph fun hv4 ehv4 => ?_
    replace hw := hw hv4 ehv4
    obtain ⟨iv5, eiv5⟩ : ∃ q : Int32, q = xl4 + 1 := ⟨_, rfl⟩
    replace hw := hw iv5 eiv5
    refine r_iinc C dX5_setActs_44 3 rfl (by rw [eiv5]; rfl) [(4, .int iv5), (0, .ref (G.1 + al0)), (2, .ref (G.1 + al2)), (3, .ref (G.1 + al3))] (by decide) rfl ?_
    refine r_goto C dX5_setActs_47 13 (by decide) ?_
    refine r_sub [1, 2, 3, 0] rfl ?_
    exact hK13 _ _ _ _ _ hw
def wl_X5_setActs_13  (post : AH → Prop) : Nat → AH → Nat → Nat → Nat → Int32 → Prop
  | 0 => fun _ _ _ _ _ => False
  | n + 1 => fun h al0 al2 al3 xl4 => wb_X5_setActs_13  (wl_X5_setActs_13  post n) h al0 al2 al3 xl4 post
theorem tl_X5_setActs_13 {G : GG} {p : Program} {l : Launch} {e : Env} {R : Room} {s : State} {m : MethodId} {args : Array Value} {below : List Frame} {meth : Method} {c : Code} {n0 s0 : Nat} {post : AH → Prop} (C : Cx G p R s m args meth c 5 cX5_setActs RX5 n0 s0 1 21) (hr : meth.sig.returnType = none)   : ∀ (n : Nat) (h : AH) (al0 : Nat) (al2 : Nat) (al3 : Nat) (xl4 : Int32), wl_X5_setActs_13  post n h al0 al2 al3 xl4 → AW G p l e R s m args below meth c 5 (QM G (pV post) args s below n0 s0) 13 [(0, .ref (G.1 + al0)), (2, .ref (G.1 + al2)), (3, .ref (G.1 + al3)), (4, .int xl4)] [] h := by
  intro n
  induction n with
  | zero => intro h al0 al2 al3 xl4 hw; exact hw.elim
  | succ n ih => intro h al0 al2 al3 xl4 hw; exact tb_X5_setActs_13 C hr  ih hw
def wp_X5_setActs (h : AH) (a0 : Nat) (x1 : Int32) (a2 : Nat) (a3 : Nat) (post : AH → Prop) : Prop := (ob h a0 5) ∧ (∀ hv1 : AH, hv1 = hI h a0 2 (mn x1 (60 : Int32)) → (∃ n, wl_X5_setActs_13  post n hv1 a0 a2 a3 0))
set_option maxRecDepth 100000 in
theorem c_X5_setActs (G : GG) (h : AH) (a0 : Nat) (x1 : Int32) (a2 : Nat) (a3 : Nat) (post : AH → Prop) (hw : wp_X5_setActs h a0 x1 a2 a3 post) : MC G yX5_setActs cX5_setActs 5 none 1 21 h [.ref (G.1 + a0), .int x1, .ref (G.1 + a2), .ref (G.1 + a3)] (pV post) := by
  refine MC.of (lv := [(0, .ref (G.1 + a0)), (1, .int x1), (2, .ref (G.1 + a2)), (3, .ref (G.1 + a3))]) (by decide) (Nat.le_of_ble_eq_true rfl) rfl fun p l e R s m args below meth c C hr hnm => ?_
  unfold wp_X5_setActs at hw
  refine r_aload_n C dX5_setActs_0 0 rfl ?_
  refine r_iload_n C dX5_setActs_1 1 rfl ?_
  refine r_bipush (v := 60) C dX5_setActs_2 (by decide) ?_
  refine r_mmin C (gm5 (List.mem_of_getElem? (i := 21) rfl) rfl) (gm3 (List.mem_of_getElem? (i := 122) rfl) rfl) (gm1 (List.mem_of_getElem? (i := 19) rfl) rfl) (gm3 (List.mem_of_getElem? (i := 123) rfl) rfl) ⟨by decide, Nat.le_of_ble_eq_true rfl⟩ dX5_setActs_4 ?_
  refine r_putI C fp_RX5_37_5 hw.1 rfl dX5_setActs_7 ?_
  replace hw := hw.2
  refine r_toph fun hv1 ehv1 => ?_
  replace hw := hw hv1 ehv1
  refine r_iconst (v := 0) C dX5_setActs_10 (by decide) ?_
  refine r_istore C dX5_setActs_11 [(4, .int 0), (0, .ref (G.1 + a0)), (1, .int x1), (2, .ref (G.1 + a2)), (3, .ref (G.1 + a3))] (by decide) rfl ?_
  refine r_sub [1, 3, 4, 0] rfl ?_
  obtain ⟨n, hw⟩ := hw
  exact tl_X5_setActs_13 C hr  n _ _ _ _ _ hw
theorem dX8_follow_0 : decode cX8_follow 0 = .ok (.aload_n 0, 1) := by decide +kernel
theorem dX8_follow_1 : decode cX8_follow 1 = .ok (.aload_n 1, 1) := by decide +kernel
theorem dX8_follow_2 : decode cX8_follow 2 = .ok (.putfield 19, 3) := by decide +kernel
theorem dX8_follow_5 : decode cX8_follow 5 = .ok (.aload_n 2, 1) := by decide +kernel
theorem dX8_follow_6 : decode cX8_follow 6 = .ok (.getfield 9, 3) := by decide +kernel
theorem dX8_follow_9 : decode cX8_follow 9 = .ok (.iconst 0, 1) := by decide +kernel
theorem dX8_follow_10 : decode cX8_follow 10 = .ok (.aload_n 0, 1) := by decide +kernel
theorem dX8_follow_11 : decode cX8_follow 11 = .ok (.getfield 9, 3) := by decide +kernel
theorem dX8_follow_14 : decode cX8_follow 14 = .ok (.iconst 0, 1) := by decide +kernel
theorem dX8_follow_15 : decode cX8_follow 15 = .ok (.bipush 8, 2) := by decide +kernel
theorem dX8_follow_17 : decode cX8_follow 17 = .ok (.invokestatic 36, 3) := by decide +kernel
theorem dX8_follow_20 : decode cX8_follow 20 = .ok (.aload_n 2, 1) := by decide +kernel
theorem dX8_follow_21 : decode cX8_follow 21 = .ok (.getfield 15, 3) := by decide +kernel
theorem dX8_follow_24 : decode cX8_follow 24 = .ok (.iconst 0, 1) := by decide +kernel
theorem dX8_follow_25 : decode cX8_follow 25 = .ok (.aload_n 0, 1) := by decide +kernel
theorem dX8_follow_26 : decode cX8_follow 26 = .ok (.getfield 15, 3) := by decide +kernel
theorem dX8_follow_29 : decode cX8_follow 29 = .ok (.iconst 0, 1) := by decide +kernel
theorem dX8_follow_30 : decode cX8_follow 30 = .ok (.bipush 8, 2) := by decide +kernel
theorem dX8_follow_32 : decode cX8_follow 32 = .ok (.invokestatic 36, 3) := by decide +kernel
theorem dX8_follow_35 : decode cX8_follow 35 = .ok (.return_, 1) := by decide +kernel
def wp_X8_follow (h : AH) (a0 : Nat) (a1 : Nat) (a2 : Nat) (post : AH → Prop) : Prop := (ob h a0 7) ∧ (∀ hv1 : AH, hv1 = hP h a0 0 a1 → ((ob hv1 a2 7) ∧ (∃ rv2, aP hv1 a2 1 = some rv2 ∧ ((ob hv1 a0 7) ∧ (∃ rv3, aP hv1 a0 1 = some rv3 ∧ ((ob hv1 rv2 13) ∧ ((ob hv1 rv3 13) ∧ ((¬ (0 : Int32) < 0) ∧ ((¬ (0 : Int32) < 0) ∧ ((¬ (8 : Int32) < 0) ∧ (((0 : Int32).toNatClampNeg + (8 : Int32).toNatClampNeg ≤ aL hv1 rv2) ∧ (((0 : Int32).toNatClampNeg + (8 : Int32).toNatClampNeg ≤ aL hv1 rv3) ∧ (∀ hv4 : AH, hv4 = hRI hv1 rv3 (va_cpy (aI hv1 rv2) (aI hv1 rv3) (0 : Int32).toNatClampNeg (0 : Int32).toNatClampNeg (8 : Int32).toNatClampNeg) → ((ob hv4 a2 7) ∧ (∃ rv5, aP hv4 a2 2 = some rv5 ∧ ((ob hv4 a0 7) ∧ (∃ rv6, aP hv4 a0 2 = some rv6 ∧ ((ob hv4 rv5 14) ∧ ((ob hv4 rv6 14) ∧ ((¬ (0 : Int32) < 0) ∧ ((¬ (0 : Int32) < 0) ∧ ((¬ (8 : Int32) < 0) ∧ (((0 : Int32).toNatClampNeg + (8 : Int32).toNatClampNeg ≤ aL hv4 rv5) ∧ (((0 : Int32).toNatClampNeg + (8 : Int32).toNatClampNeg ≤ aL hv4 rv6) ∧ (∀ hv7 : AH, hv7 = hRJ hv4 rv6 (va_cpy (aJ hv4 rv5) (aJ hv4 rv6) (0 : Int32).toNatClampNeg (0 : Int32).toNatClampNeg (8 : Int32).toNatClampNeg) → (post hv7))))))))))))))))))))))))))
set_option maxRecDepth 100000 in
theorem c_X8_follow (G : GG) (h : AH) (a0 : Nat) (a1 : Nat) (a2 : Nat) (post : AH → Prop) (hw : wp_X8_follow h a0 a1 a2 post) : MC G yX8_follow cX8_follow 3 none 1 26 h [.ref (G.1 + a0), .ref (G.1 + a1), .ref (G.1 + a2)] (pV post) := by
  refine MC.of (lv := [(0, .ref (G.1 + a0)), (1, .ref (G.1 + a1)), (2, .ref (G.1 + a2))]) (by decide) (Nat.le_of_ble_eq_true rfl) rfl fun p l e R s m args below meth c C hr hnm => ?_
  unfold wp_X8_follow at hw
  refine r_aload_n C dX8_follow_0 0 rfl ?_
  refine r_aload_n C dX8_follow_1 1 rfl ?_
  refine r_putP C fp_RX8_19_7 hw.1 (fun _ _ _ => rfl) dX8_follow_2 ?_
  replace hw := hw.2
  refine r_toph fun hv1 ehv1 => ?_
  replace hw := hw hv1 ehv1
  refine r_aload_n C dX8_follow_5 2 rfl ?_
  have hob := hw.1
  obtain ⟨rv2, hp, hw⟩ := hw.2
  refine r_getP C fl_RX8_9_7 hob hp (fun _ _ _ => rfl) dX8_follow_6 ?_
  refine r_iconst (v := 0) C dX8_follow_9 (by decide) ?_
  refine r_aload_n C dX8_follow_10 0 rfl ?_
  have hob := hw.1
  obtain ⟨rv3, hp, hw⟩ := hw.2
  refine r_getP C fl_RX8_9_7 hob hp (fun _ _ _ => rfl) dX8_follow_11 ?_
  refine r_iconst (v := 0) C dX8_follow_14 (by decide) ?_
  refine r_bipush (v := 8) C dX8_follow_15 (by decide) ?_
  refine r_copyI C (gm4 (List.mem_of_getElem? (i := 120) rfl) rfl) (gm4 (List.mem_of_getElem? (i := 122) rfl) rfl) (gm4 (List.mem_of_getElem? (i := 121) rfl) rfl) (gm1 (List.mem_of_getElem? (i := 24) rfl) rfl) hw.1 hw.2.1 hw.2.2.1 hw.2.2.2.1 hw.2.2.2.2.1 hw.2.2.2.2.2.1 hw.2.2.2.2.2.2.1 ⟨by decide, Nat.le_of_ble_eq_true rfl⟩ dX8_follow_17 ?_
  replace hw := hw.2.2.2.2.2.2.2
  refine r_toph fun hv4 ehv4 => ?_
  replace hw := hw hv4 ehv4
  refine r_aload_n C dX8_follow_20 2 rfl ?_
  have hob := hw.1
  obtain ⟨rv5, hp, hw⟩ := hw.2
  refine r_getP C fl_RX8_15_7 hob hp (fun _ _ _ => rfl) dX8_follow_21 ?_
  refine r_iconst (v := 0) C dX8_follow_24 (by decide) ?_
  refine r_aload_n C dX8_follow_25 0 rfl ?_
  have hob := hw.1
  obtain ⟨rv6, hp, hw⟩ := hw.2
  refine r_getP C fl_RX8_15_7 hob hp (fun _ _ _ => rfl) dX8_follow_26 ?_
  refine r_iconst (v := 0) C dX8_follow_29 (by decide) ?_
  refine r_bipush (v := 8) C dX8_follow_30 (by decide) ?_
  refine r_copyJ C (gm4 (List.mem_of_getElem? (i := 120) rfl) rfl) (gm4 (List.mem_of_getElem? (i := 122) rfl) rfl) (gm4 (List.mem_of_getElem? (i := 121) rfl) rfl) (gm1 (List.mem_of_getElem? (i := 24) rfl) rfl) hw.1 hw.2.1 hw.2.2.1 hw.2.2.2.1 hw.2.2.2.2.1 hw.2.2.2.2.2.1 hw.2.2.2.2.2.2.1 ⟨by decide, Nat.le_of_ble_eq_true rfl⟩ dX8_follow_32 ?_
  replace hw := hw.2.2.2.2.2.2.2
  refine r_toph fun hv7 ehv7 => ?_
  replace hw := hw hv7 ehv7
  exact r_vret C hr dX8_follow_35 hw
theorem dX5_copy_0 : decode cX5_copy 0 = .ok (.aload_n 0, 1) := by decide +kernel
theorem dX5_copy_1 : decode cX5_copy 1 = .ok (.getfield 12, 3) := by decide +kernel
theorem dX5_copy_4 : decode cX5_copy 4 = .ok (.aload_n 1, 1) := by decide +kernel
theorem dX5_copy_5 : decode cX5_copy 5 = .ok (.getfield 12, 3) := by decide +kernel
theorem dX5_copy_8 : decode cX5_copy 8 = .ok (.invokevirtual 47, 3) := by decide +kernel
theorem dX5_copy_11 : decode cX5_copy 11 = .ok (.aload_n 0, 1) := by decide +kernel
theorem dX5_copy_12 : decode cX5_copy 12 = .ok (.getfield 23, 3) := by decide +kernel
theorem dX5_copy_15 : decode cX5_copy 15 = .ok (.aload_n 0, 1) := by decide +kernel
theorem dX5_copy_16 : decode cX5_copy 16 = .ok (.getfield 12, 3) := by decide +kernel
theorem dX5_copy_19 : decode cX5_copy 19 = .ok (.aload_n 1, 1) := by decide +kernel
theorem dX5_copy_20 : decode cX5_copy 20 = .ok (.getfield 23, 3) := by decide +kernel
theorem dX5_copy_23 : decode cX5_copy 23 = .ok (.invokevirtual 50, 3) := by decide +kernel
theorem dX5_copy_26 : decode cX5_copy 26 = .ok (.aload_n 0, 1) := by decide +kernel
theorem dX5_copy_27 : decode cX5_copy 27 = .ok (.aload_n 1, 1) := by decide +kernel
theorem dX5_copy_28 : decode cX5_copy 28 = .ok (.getfield 37, 3) := by decide +kernel
theorem dX5_copy_31 : decode cX5_copy 31 = .ok (.aload_n 1, 1) := by decide +kernel
theorem dX5_copy_32 : decode cX5_copy 32 = .ok (.getfield 27, 3) := by decide +kernel
theorem dX5_copy_35 : decode cX5_copy 35 = .ok (.aload_n 1, 1) := by decide +kernel
theorem dX5_copy_36 : decode cX5_copy 36 = .ok (.getfield 31, 3) := by decide +kernel
theorem dX5_copy_39 : decode cX5_copy 39 = .ok (.invokevirtual 54, 3) := by decide +kernel
theorem dX5_copy_42 : decode cX5_copy 42 = .ok (.return_, 1) := by decide +kernel
def wp_X5_copy (h : AH) (a0 : Nat) (a1 : Nat) (post : AH → Prop) : Prop := (ob h a0 5) ∧ (∃ rv1, aP h a0 0 = some rv1 ∧ ((ob h a1 5) ∧ (∃ rv2, aP h a1 0 = some rv2 ∧ ((ob h rv1 1) ∧ wp_X1_copy h rv1 rv2 (fun hv3  => (ob hv3 a0 5) ∧ (∃ rv4, aP hv3 a0 1 = some rv4 ∧ ((ob hv3 a0 5) ∧ (∃ rv5, aP hv3 a0 0 = some rv5 ∧ ((ob hv3 a1 5) ∧ (∃ rv6, aP hv3 a1 1 = some rv6 ∧ ((ob hv3 rv4 7) ∧ wp_X8_follow hv3 rv4 rv5 rv6 (fun hv7  => (ob hv7 a1 5) ∧ ((ob hv7 a1 5) ∧ (∃ rv8, aP hv7 a1 3 = some rv8 ∧ ((ob hv7 a1 5) ∧ (∃ rv9, aP hv7 a1 4 = some rv9 ∧ ((ob hv7 a0 5) ∧ wp_X5_setActs hv7 a0 (aI hv7 a1 2) rv8 rv9 (fun hv10  => post hv10))))))))))))))))))
set_option maxRecDepth 100000 in
theorem c_X5_copy (G : GG) (h : AH) (a0 : Nat) (a1 : Nat) (post : AH → Prop) (hw : wp_X5_copy h a0 a1 post) : MC G yX5_copy cX5_copy 2 none 3 68 h [.ref (G.1 + a0), .ref (G.1 + a1)] (pV post) := by
  refine MC.of (lv := [(0, .ref (G.1 + a0)), (1, .ref (G.1 + a1))]) (by decide) (Nat.le_of_ble_eq_true rfl) rfl fun p l e R s m args below meth c C hr hnm => ?_
  unfold wp_X5_copy at hw
  refine r_aload_n C dX5_copy_0 0 rfl ?_
  have hob := hw.1
  obtain ⟨rv1, hp, hw⟩ := hw.2
  refine r_getP C fl_RX5_12_5 hob hp (fun _ _ _ => rfl) dX5_copy_1 ?_
  refine r_aload_n C dX5_copy_4 1 rfl ?_
  have hob := hw.1
  obtain ⟨rv2, hp, hw⟩ := hw.2
  refine r_getP C fl_RX5_12_5 hob hp (fun _ _ _ => rfl) dX5_copy_5 ?_
  have hob := hw.1
  replace hw := hw.2
  refine r_callV C (As := [.ref (G.1 + rv2)]) (rest := []) (c_X1_copy G h rv1 rv2 _ hw) yl_X1_copy (gm6 (List.mem_of_getElem? (i := 74) rfl) rfl) (gm6 (List.mem_of_getElem? (i := 75) rfl) rfl) (ci := 1) rfl (by decide) (gm6 (List.mem_of_getElem? (i := 76) rfl) rfl) hob (by decide) rfl (Nat.le_of_ble_eq_true rfl) dX5_copy_8 rfl (kV fun hv3  hw => ?_)
  refine r_aload_n C dX5_copy_11 0 rfl ?_
  have hob := hw.1
  obtain ⟨rv4, hp, hw⟩ := hw.2
  refine r_getP C fl_RX5_23_5 hob hp (fun _ _ _ => rfl) dX5_copy_12 ?_
  refine r_aload_n C dX5_copy_15 0 rfl ?_
  have hob := hw.1
  obtain ⟨rv5, hp, hw⟩ := hw.2
  refine r_getP C fl_RX5_12_5 hob hp (fun _ _ _ => rfl) dX5_copy_16 ?_
  refine r_aload_n C dX5_copy_19 1 rfl ?_
  have hob := hw.1
  obtain ⟨rv6, hp, hw⟩ := hw.2
  refine r_getP C fl_RX5_23_5 hob hp (fun _ _ _ => rfl) dX5_copy_20 ?_
  have hob := hw.1
  replace hw := hw.2
  refine r_callV C (As := [.ref (G.1 + rv5), .ref (G.1 + rv6)]) (rest := []) (c_X8_follow G hv3 rv4 rv5 rv6 _ hw) yl_X8_follow (gm6 (List.mem_of_getElem? (i := 89) rfl) rfl) (gm4 (List.mem_of_getElem? (i := 117) rfl) rfl) (ci := 7) rfl (by decide) (gm4 (List.mem_of_getElem? (i := 118) rfl) rfl) hob (by decide) rfl (Nat.le_of_ble_eq_true rfl) dX5_copy_23 rfl (kV fun hv7  hw => ?_)
  refine r_aload_n C dX5_copy_26 0 rfl ?_
  refine r_aload_n C dX5_copy_27 1 rfl ?_
  refine r_getI C fl_RX5_37_5 hw.1 (fun _ _ _ => rfl) dX5_copy_28 ?_
  replace hw := hw.2
  refine r_aload_n C dX5_copy_31 1 rfl ?_
  have hob := hw.1
  obtain ⟨rv8, hp, hw⟩ := hw.2
  refine r_getP C fl_RX5_27_5 hob hp (fun _ _ _ => rfl) dX5_copy_32 ?_
  refine r_aload_n C dX5_copy_35 1 rfl ?_
  have hob := hw.1
  obtain ⟨rv9, hp, hw⟩ := hw.2
  refine r_getP C fl_RX5_31_5 hob hp (fun _ _ _ => rfl) dX5_copy_36 ?_
  have hob := hw.1
  replace hw := hw.2
  refine r_callV C (As := [.int (aI hv7 a1 2), .ref (G.1 + rv8), .ref (G.1 + rv9)]) (rest := []) (c_X5_setActs G hv7 a0 (aI hv7 a1 2) rv8 rv9 _ hw) yl_X5_setActs (gm6 (List.mem_of_getElem? (i := 90) rfl) rfl) (gm5 (List.mem_of_getElem? (i := 18) rfl) rfl) (ci := 5) rfl (by decide) (gm5 (List.mem_of_getElem? (i := 19) rfl) rfl) hob (by decide) rfl (Nat.le_of_ble_eq_true rfl) dX5_copy_39 rfl (kV fun hv10  hw => ?_)
  exact r_vret C hr dX5_copy_42 hw
