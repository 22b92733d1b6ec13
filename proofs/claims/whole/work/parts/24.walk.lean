theorem yl_X8_metBits : YL yX8_metBits cX8_metBits 1 (some .int) 0 := ⟨(gm4 (List.mem_of_getElem? (i := 201) rfl) rfl), (gm1 (List.mem_of_getElem? (i := 14) rfl) rfl), by decide, by decide, by decide +kernel⟩
theorem yl_X10_worthOf : YL yX10_worthOf cX10_worthOf 4 (some .int) 1 := ⟨(gm4 (List.mem_of_getElem? (i := 222) rfl) rfl), (gm1 (List.mem_of_getElem? (i := 10) rfl) rfl), by decide, by decide, by decide +kernel⟩
theorem fl_RX8_115_1 : FL RX8 115 1 13 := ⟨RX1, RX1, TX1, 16, ci1, by decide, (gm1 (List.mem_of_getElem? (i := 202) rfl) rfl), Or.inl rfl⟩
theorem nl_RX9_9 : NL RX9 9 7 := ⟨RX8, TX8, 3, ci7, (gm2 (List.mem_of_getElem? (i := 163) rfl) rfl), (gm2 (List.mem_of_getElem? (i := 110) rfl) rfl), (gm1 (List.mem_of_getElem? (i := 14) rfl) rfl), by decide⟩
theorem ff_RX9_14_8 : FF RX9 14 8 0 := ⟨RX9, RX9, TX9, 6, ci8, by decide, (gm2 (List.mem_of_getElem? (i := 165) rfl) rfl), Or.inl rfl, rfl, rfl⟩
theorem fl_RX9_14_8 : FL RX9 14 8 0 := ⟨RX9, RX9, TX9, 6, ci8, by decide, (gm2 (List.mem_of_getElem? (i := 165) rfl) rfl), Or.inl rfl⟩
theorem fp_RX9_24_8 : FP RX9 24 8 1 := ⟨RX9, RX9, TX9, 6, ci8, by decide, (gm2 (List.mem_of_getElem? (i := 167) rfl) rfl), Or.inl rfl, rfl⟩
theorem fp_RX9_28_8 : FP RX9 28 8 2 := ⟨RX9, RX9, TX9, 6, ci8, by decide, (gm2 (List.mem_of_getElem? (i := 168) rfl) rfl), Or.inl rfl, rfl⟩
theorem fp_RX9_31_8 : FP RX9 31 8 3 := ⟨RX9, RX9, TX9, 6, ci8, by decide, (gm2 (List.mem_of_getElem? (i := 170) rfl) rfl), Or.inl rfl, rfl⟩
theorem fp_RX9_34_8 : FP RX9 34 8 4 := ⟨RX9, RX9, TX9, 6, ci8, by decide, (gm2 (List.mem_of_getElem? (i := 172) rfl) rfl), Or.inl rfl, rfl⟩
theorem fp_RX9_37_8 : FP RX9 37 8 5 := ⟨RX9, RX9, TX9, 6, ci8, by decide, (gm2 (List.mem_of_getElem? (i := 174) rfl) rfl), Or.inl rfl, rfl⟩
theorem fl_RX9_24_8 : FL RX9 24 8 1 := ⟨RX9, RX9, TX9, 6, ci8, by decide, (gm2 (List.mem_of_getElem? (i := 167) rfl) rfl), Or.inl rfl⟩
theorem fl_RX9_28_8 : FL RX9 28 8 2 := ⟨RX9, RX9, TX9, 6, ci8, by decide, (gm2 (List.mem_of_getElem? (i := 168) rfl) rfl), Or.inl rfl⟩
theorem fl_RX9_31_8 : FL RX9 31 8 3 := ⟨RX9, RX9, TX9, 6, ci8, by decide, (gm2 (List.mem_of_getElem? (i := 170) rfl) rfl), Or.inl rfl⟩
theorem fl_RX9_34_8 : FL RX9 34 8 4 := ⟨RX9, RX9, TX9, 6, ci8, by decide, (gm2 (List.mem_of_getElem? (i := 172) rfl) rfl), Or.inl rfl⟩
theorem fl_RX9_37_8 : FL RX9 37 8 5 := ⟨RX9, RX9, TX9, 6, ci8, by decide, (gm2 (List.mem_of_getElem? (i := 174) rfl) rfl), Or.inl rfl⟩
theorem yl_X8_isSquareTaken : YL yX8_isSquareTaken cX8_isSquareTaken 1 (some .boolean) 0 := ⟨(gm5 (List.mem_of_getElem? (i := 49) rfl) rfl), (gm1 (List.mem_of_getElem? (i := 14) rfl) rfl), by decide, by decide, by decide +kernel⟩
theorem yl_X9_pass : YL yX9_pass cX9_pass 4 none 1 := ⟨(gm5 (List.mem_of_getElem? (i := 45) rfl) rfl), (gm1 (List.mem_of_getElem? (i := 15) rfl) rfl), by decide, by decide, by decide +kernel⟩
theorem fl_RX9_44_5 : FL RX9 44 5 2 := ⟨RX5, RX5, TX5, 5, ci5, by decide, (gm2 (List.mem_of_getElem? (i := 135) rfl) rfl), Or.inl rfl⟩
theorem fl_RX9_49_5 : FL RX9 49 5 3 := ⟨RX5, RX5, TX5, 5, ci5, by decide, (gm2 (List.mem_of_getElem? (i := 138) rfl) rfl), Or.inl rfl⟩
theorem fl_RX9_53_5 : FL RX9 53 5 4 := ⟨RX5, RX5, TX5, 5, ci5, by decide, (gm2 (List.mem_of_getElem? (i := 141) rfl) rfl), Or.inl rfl⟩
theorem yl_X9_step : YL yX9_step cX9_step 4 (some .boolean) 2 := ⟨(gm5 (List.mem_of_getElem? (i := 41) rfl) rfl), (gm1 (List.mem_of_getElem? (i := 15) rfl) rfl), by decide, by decide, by decide +kernel⟩
theorem fl_RX11_71_10 : FL RX11 71 10 1 := ⟨RX11, RX11, TX11, 15, ci10, by decide, (gm3 (List.mem_of_getElem? (i := 46) rfl) rfl), Or.inl rfl⟩
theorem fl_RX11_9_10 : FL RX11 9 10 0 := ⟨RX11, RX11, TX11, 15, ci10, by decide, (gm3 (List.mem_of_getElem? (i := 45) rfl) rfl), Or.inl rfl⟩
theorem fp_RX11_71_10 : FP RX11 71 10 1 := ⟨RX11, RX11, TX11, 15, ci10, by decide, (gm3 (List.mem_of_getElem? (i := 46) rfl) rfl), Or.inl rfl, rfl⟩
theorem yl_X11_putBytes : YL yX11_putBytes cX11_putBytes 3 none 1 := ⟨(gm3 (List.mem_of_getElem? (i := 98) rfl) rfl), (gm1 (List.mem_of_getElem? (i := 1) rfl) rfl), by decide, by decide, by decide +kernel⟩
theorem fl_RX11_16_10 : FL RX11 16 10 3 := ⟨RX11, RX11, TX11, 15, ci10, by decide, (gm3 (List.mem_of_getElem? (i := 48) rfl) rfl), Or.inl rfl⟩
theorem yl_X11_takeTape : YL yX11_takeTape cX11_takeTape 2 (some .int) 0 := ⟨(gm3 (List.mem_of_getElem? (i := 110) rfl) rfl), (gm1 (List.mem_of_getElem? (i := 1) rfl) rfl), by decide, by decide, by decide +kernel⟩
theorem yl_X2_readLines : YL yX2_readLines cX2_readLines 4 (some .int) 2 := ⟨(gm3 (List.mem_of_getElem? (i := 114) rfl) rfl), (gm1 (List.mem_of_getElem? (i := 3) rfl) rfl), by decide, by decide, by decide +kernel⟩
theorem fl_RX11_87_2 : FL RX11 87 2 10 := ⟨RX2, RX2, TX2, 14, ci2, by decide, (gm2 (List.mem_of_getElem? (i := 34) rfl) rfl), Or.inr (gm2 (List.mem_of_getElem? (i := 33) rfl) rfl)⟩
theorem fp_RX11_90_10 : FP RX11 90 10 2 := ⟨RX11, RX11, TX11, 15, ci10, by decide, (gm3 (List.mem_of_getElem? (i := 47) rfl) rfl), Or.inl rfl, rfl⟩
theorem fl_RX11_90_10 : FL RX11 90 10 2 := ⟨RX11, RX11, TX11, 15, ci10, by decide, (gm3 (List.mem_of_getElem? (i := 47) rfl) rfl), Or.inl rfl⟩
theorem fl_RX11_30_10 : FL RX11 30 10 5 := ⟨RX11, RX11, TX11, 15, ci10, by decide, (gm3 (List.mem_of_getElem? (i := 50) rfl) rfl), Or.inl rfl⟩
theorem fl_RX11_96_2 : FL RX11 96 2 12 := ⟨RX2, RX2, TX2, 14, ci2, by decide, (gm2 (List.mem_of_getElem? (i := 9) rfl) rfl), Or.inl rfl⟩
theorem yl_X5_begin : YL yX5_begin cX5_begin 3 (some (.object "RaftTown$Lagoon")) 1 := ⟨(gm4 (List.mem_of_getElem? (i := 68) rfl) rfl), (gm1 (List.mem_of_getElem? (i := 13) rfl) rfl), by decide, by decide, by decide +kernel⟩
theorem fp_RX11_96_2 : FP RX11 96 2 12 := ⟨RX2, RX2, TX2, 14, ci2, by decide, (gm2 (List.mem_of_getElem? (i := 9) rfl) rfl), Or.inl rfl, rfl⟩
theorem fl_RX11_93_2 : FL RX11 93 2 11 := ⟨RX2, RX2, TX2, 14, ci2, by decide, (gm2 (List.mem_of_getElem? (i := 38) rfl) rfl), Or.inr (gm2 (List.mem_of_getElem? (i := 39) rfl) rfl)⟩
theorem fl_RX11_40_5 : FL RX11 40 5 0 := ⟨RX5, RX5, TX5, 5, ci5, by decide, (gm2 (List.mem_of_getElem? (i := 131) rfl) rfl), Or.inl rfl⟩
theorem yl_X11_isHour : YL yX11_isHour cX11_isHour 1 (some .boolean) 1 := ⟨(gm4 (List.mem_of_getElem? (i := 92) rfl) rfl), (gm1 (List.mem_of_getElem? (i := 1) rfl) rfl), by decide, by decide, by decide +kernel⟩
theorem fl_RX11_113_1 : FL RX11 113 1 4 := ⟨RX1, RX1, TX1, 16, ci1, by decide, (gm1 (List.mem_of_getElem? (i := 175) rfl) rfl), Or.inl rfl⟩
theorem fl_RX11_117_1 : FL RX11 117 1 2 := ⟨RX1, RX1, TX1, 16, ci1, by decide, (gm1 (List.mem_of_getElem? (i := 171) rfl) rfl), Or.inl rfl⟩
theorem fl_RX11_147_1 : FL RX11 147 1 5 := ⟨RX1, RX1, TX1, 16, ci1, by decide, (gm1 (List.mem_of_getElem? (i := 181) rfl) rfl), Or.inl rfl⟩
theorem fl_RX11_132_5 : FL RX11 132 5 1 := ⟨RX5, RX5, TX5, 5, ci5, by decide, (gm2 (List.mem_of_getElem? (i := 133) rfl) rfl), Or.inl rfl⟩
theorem fl_RX11_150_7 : FL RX11 150 7 2 := ⟨RX8, RX8, TX8, 3, ci7, by decide, (gm2 (List.mem_of_getElem? (i := 122) rfl) rfl), Or.inl rfl⟩
theorem fl_RX11_47_10 : FL RX11 47 10 7 := ⟨RX11, RX11, TX11, 15, ci10, by decide, (gm3 (List.mem_of_getElem? (i := 52) rfl) rfl), Or.inl rfl⟩
theorem yl_X8_readBytes : YL yX8_readBytes cX8_readBytes 8 (some .boolean) 3 := ⟨(gm4 (List.mem_of_getElem? (i := 105) rfl) rfl), (gm1 (List.mem_of_getElem? (i := 14) rfl) rfl), by decide, by decide, by decide +kernel⟩
theorem yl_X11_aground : YL yX11_aground cX11_aground 4 (some .int) 1 := ⟨(gm4 (List.mem_of_getElem? (i := 126) rfl) rfl), (gm1 (List.mem_of_getElem? (i := 1) rfl) rfl), by decide, by decide, by decide +kernel⟩
theorem yl_X1_isUneven : YL yX1_isUneven cX1_isUneven 4 (some .boolean) 1 := ⟨(gm4 (List.mem_of_getElem? (i := 140) rfl) rfl), (gm1 (List.mem_of_getElem? (i := 8) rfl) rfl), by decide, by decide, by decide +kernel⟩
theorem yl_X11_isRaft : YL yX11_isRaft cX11_isRaft 2 (some .boolean) 1 := ⟨(gm4 (List.mem_of_getElem? (i := 148) rfl) rfl), (gm1 (List.mem_of_getElem? (i := 1) rfl) rfl), by decide, by decide, by decide +kernel⟩
theorem yl_X1_hoursCarrying : YL yX1_hoursCarrying cX1_hoursCarrying 6 (some .int) 2 := ⟨(gm4 (List.mem_of_getElem? (i := 152) rfl) rfl), (gm1 (List.mem_of_getElem? (i := 8) rfl) rfl), by decide, by decide, by decide +kernel⟩
theorem fl_RX11_135_7 : FL RX11 135 7 1 := ⟨RX8, RX8, TX8, 3, ci7, by decide, (gm2 (List.mem_of_getElem? (i := 118) rfl) rfl), Or.inl rfl⟩
theorem yl_X8_met : YL yX8_met cX8_met 1 (some .int) 0 := ⟨(gm4 (List.mem_of_getElem? (i := 197) rfl) rfl), (gm1 (List.mem_of_getElem? (i := 14) rfl) rfl), by decide, by decide, by decide +kernel⟩
theorem fl_RX11_23_10 : FL RX11 23 10 4 := ⟨RX11, RX11, TX11, 15, ci10, by decide, (gm3 (List.mem_of_getElem? (i := 49) rfl) rfl), Or.inl rfl⟩
theorem yl_X3_readActs : YL yX3_readActs cX3_readActs 5 (some .int) 3 := ⟨(gm4 (List.mem_of_getElem? (i := 231) rfl) rfl), (gm1 (List.mem_of_getElem? (i := 12) rfl) rfl), by decide, by decide, by decide +kernel⟩
theorem fl_RX11_200_3 : FL RX11 200 3 10 := ⟨RX3, RX3, TX3, 15, ci3, by decide, (gm2 (List.mem_of_getElem? (i := 35) rfl) rfl), Or.inr (gm2 (List.mem_of_getElem? (i := 36) rfl) rfl)⟩
theorem fl_RX11_202_3 : FL RX11 202 3 13 := ⟨RX3, RX3, TX3, 15, ci3, by decide, (gm2 (List.mem_of_getElem? (i := 79) rfl) rfl), Or.inl rfl⟩
theorem fl_RX11_205_3 : FL RX11 205 3 14 := ⟨RX3, RX3, TX3, 15, ci3, by decide, (gm2 (List.mem_of_getElem? (i := 81) rfl) rfl), Or.inl rfl⟩
theorem fl_RX11_201_3 : FL RX11 201 3 11 := ⟨RX3, RX3, TX3, 15, ci3, by decide, (gm2 (List.mem_of_getElem? (i := 40) rfl) rfl), Or.inr (gm2 (List.mem_of_getElem? (i := 41) rfl) rfl)⟩
theorem yl_X11_isQuarter : YL yX11_isQuarter cX11_isQuarter 1 (some .boolean) 1 := ⟨(gm5 (List.mem_of_getElem? (i := 28) rfl) rfl), (gm1 (List.mem_of_getElem? (i := 1) rfl) rfl), by decide, by decide, by decide +kernel⟩
theorem fl_RX11_54_10 : FL RX11 54 10 8 := ⟨RX11, RX11, TX11, 15, ci10, by decide, (gm3 (List.mem_of_getElem? (i := 53) rfl) rfl), Or.inl rfl⟩
theorem yl_X9_begin : YL yX9_begin cX9_begin 4 none 3 := ⟨(gm5 (List.mem_of_getElem? (i := 32) rfl) rfl), (gm1 (List.mem_of_getElem? (i := 15) rfl) rfl), by decide, by decide, by decide +kernel⟩
theorem yl_X9_runFrom : YL yX9_runFrom cX9_runFrom 4 (some .int) 2 := ⟨(gm5 (List.mem_of_getElem? (i := 37) rfl) rfl), (gm1 (List.mem_of_getElem? (i := 15) rfl) rfl), by decide, by decide, by decide +kernel⟩
theorem fp_RX11_227_10 : FP RX11 227 10 11 := ⟨RX11, RX11, TX11, 15, ci10, by decide, (gm3 (List.mem_of_getElem? (i := 56) rfl) rfl), Or.inl rfl, rfl⟩
theorem fp_RX11_231_10 : FP RX11 231 10 12 := ⟨RX11, RX11, TX11, 15, ci10, by decide, (gm3 (List.mem_of_getElem? (i := 57) rfl) rfl), Or.inl rfl, rfl⟩
theorem fl_RX11_234_8 : FL RX11 234 8 0 := ⟨RX9, RX9, TX9, 6, ci8, by decide, (gm2 (List.mem_of_getElem? (i := 166) rfl) rfl), Or.inl rfl⟩
theorem fp_RX11_235_10 : FP RX11 235 10 13 := ⟨RX11, RX11, TX11, 15, ci10, by decide, (gm3 (List.mem_of_getElem? (i := 58) rfl) rfl), Or.inl rfl, rfl⟩
theorem fl_RX11_227_10 : FL RX11 227 10 11 := ⟨RX11, RX11, TX11, 15, ci10, by decide, (gm3 (List.mem_of_getElem? (i := 56) rfl) rfl), Or.inl rfl⟩
theorem fl_RX11_238_8 : FL RX11 238 8 3 := ⟨RX9, RX9, TX9, 6, ci8, by decide, (gm2 (List.mem_of_getElem? (i := 171) rfl) rfl), Or.inl rfl⟩
theorem fl_RX11_241_8 : FL RX11 241 8 2 := ⟨RX9, RX9, TX9, 6, ci8, by decide, (gm2 (List.mem_of_getElem? (i := 169) rfl) rfl), Or.inl rfl⟩
theorem fl_RX11_244_8 : FL RX11 244 8 4 := ⟨RX9, RX9, TX9, 6, ci8, by decide, (gm2 (List.mem_of_getElem? (i := 173) rfl) rfl), Or.inl rfl⟩
theorem fl_RX11_247_8 : FL RX11 247 8 5 := ⟨RX9, RX9, TX9, 6, ci8, by decide, (gm2 (List.mem_of_getElem? (i := 175) rfl) rfl), Or.inl rfl⟩
theorem fl_RX11_235_10 : FL RX11 235 10 13 := ⟨RX11, RX11, TX11, 15, ci10, by decide, (gm3 (List.mem_of_getElem? (i := 58) rfl) rfl), Or.inl rfl⟩
theorem fl_RX11_231_10 : FL RX11 231 10 12 := ⟨RX11, RX11, TX11, 15, ci10, by decide, (gm3 (List.mem_of_getElem? (i := 57) rfl) rfl), Or.inl rfl⟩
theorem yl_X11_partOfSpot : YL yX11_partOfSpot cX11_partOfSpot 2 (some .int) 2 := ⟨(gm5 (List.mem_of_getElem? (i := 62) rfl) rfl), (gm1 (List.mem_of_getElem? (i := 1) rfl) rfl), by decide, by decide, by decide +kernel⟩
theorem fl_RX11_58_10 : FL RX11 58 10 9 := ⟨RX11, RX11, TX11, 15, ci10, by decide, (gm3 (List.mem_of_getElem? (i := 54) rfl) rfl), Or.inl rfl⟩
theorem fl_RX11_212_5 : FL RX11 212 5 2 := ⟨RX5, RX5, TX5, 5, ci5, by decide, (gm2 (List.mem_of_getElem? (i := 136) rfl) rfl), Or.inl rfl⟩
theorem fl_RX11_61_10 : FL RX11 61 10 10 := ⟨RX11, RX11, TX11, 15, ci10, by decide, (gm3 (List.mem_of_getElem? (i := 55) rfl) rfl), Or.inl rfl⟩
theorem yl_X9_follow : YL yX9_follow cX9_follow 2 none 1 := ⟨(gm5 (List.mem_of_getElem? (i := 70) rfl) rfl), (gm1 (List.mem_of_getElem? (i := 15) rfl) rfl), by decide, by decide, by decide +kernel⟩
theorem fl_RX11_215_5 : FL RX11 215 5 3 := ⟨RX5, RX5, TX5, 5, ci5, by decide, (gm2 (List.mem_of_getElem? (i := 139) rfl) rfl), Or.inl rfl⟩
theorem fl_RX11_216_5 : FL RX11 216 5 4 := ⟨RX5, RX5, TX5, 5, ci5, by decide, (gm2 (List.mem_of_getElem? (i := 142) rfl) rfl), Or.inl rfl⟩
theorem yl_X1_isSmall : YL yX1_isSmall cX1_isSmall 1 (some .boolean) 0 := ⟨(gm5 (List.mem_of_getElem? (i := 83) rfl) rfl), (gm1 (List.mem_of_getElem? (i := 8) rfl) rfl), by decide, by decide, by decide +kernel⟩
theorem fl_RX11_67_10 : FL RX11 67 10 14 := ⟨RX11, RX11, TX11, 15, ci10, by decide, (gm3 (List.mem_of_getElem? (i := 59) rfl) rfl), Or.inl rfl⟩
theorem yl_X6_leastActs : YL yX6_leastActs cX6_leastActs 7 (some .int) 4 := ⟨(gm5 (List.mem_of_getElem? (i := 87) rfl) rfl), (gm1 (List.mem_of_getElem? (i := 16) rfl) rfl), by decide, by decide, by decide +kernel⟩
theorem yl_X11_spotFor : YL yX11_spotFor cX11_spotFor 6 (some .int) 4 := ⟨(gm5 (List.mem_of_getElem? (i := 194) rfl) rfl), (gm1 (List.mem_of_getElem? (i := 1) rfl) rfl), by decide, by decide, by decide +kernel⟩
theorem yl_X6_leastAlone : YL yX6_leastAlone cX6_leastAlone 9 (some .int) 5 := ⟨(gm5 (List.mem_of_getElem? (i := 200) rfl) rfl), (gm1 (List.mem_of_getElem? (i := 16) rfl) rfl), by decide, by decide, by decide +kernel⟩
theorem yl_X6_mostMet : YL yX6_mostMet cX6_mostMet 13 (some .int) 4 := ⟨(gm5 (List.mem_of_getElem? (i := 215) rfl) rfl), (gm1 (List.mem_of_getElem? (i := 16) rfl) rfl), by decide, by decide, by decide +kernel⟩
theorem fl_RX11_281_6 : FL RX11 281 6 9 := ⟨RX6, RX6, TX6, 15, ci6, by decide, (gm3 (List.mem_of_getElem? (i := 5) rfl) rfl), Or.inl rfl⟩
theorem fl_RX11_282_6 : FL RX11 282 6 8 := ⟨RX6, RX6, TX6, 15, ci6, by decide, (gm3 (List.mem_of_getElem? (i := 3) rfl) rfl), Or.inl rfl⟩
theorem yl_X6_mostMetAnywhere : YL yX6_mostMetAnywhere cX6_mostMetAnywhere 8 (some .int) 1 := ⟨(gm6 (List.mem_of_getElem? (i := 12) rfl) rfl), (gm1 (List.mem_of_getElem? (i := 16) rfl) rfl), by decide, by decide, by decide +kernel⟩
theorem fl_RX11_289_6 : FL RX11 289 6 13 := ⟨RX6, RX6, TX6, 15, ci6, by decide, (gm3 (List.mem_of_getElem? (i := 11) rfl) rfl), Or.inl rfl⟩
theorem fl_RX11_292_6 : FL RX11 292 6 10 := ⟨RX6, RX6, TX6, 15, ci6, by decide, (gm3 (List.mem_of_getElem? (i := 7) rfl) rfl), Or.inl rfl⟩
theorem fl_RX11_295_6 : FL RX11 295 6 14 := ⟨RX6, RX6, TX6, 15, ci6, by decide, (gm3 (List.mem_of_getElem? (i := 13) rfl) rfl), Or.inl rfl⟩
theorem dX10_worthOf_0 : decode cX10_worthOf 0 = .ok (.iconst 0, 1) := by decide +kernel
theorem dX10_worthOf_1 : decode cX10_worthOf 1 = .ok (.istore_n 2, 1) := by decide +kernel
theorem dX10_worthOf_2 : decode cX10_worthOf 2 = .ok (.iconst 0, 1) := by decide +kernel
theorem dX10_worthOf_3 : decode cX10_worthOf 3 = .ok (.istore_n 3, 1) := by decide +kernel
theorem dX10_worthOf_4 : decode cX10_worthOf 4 = .ok (.iload_n 3, 1) := by decide +kernel
theorem dX10_worthOf_5 : decode cX10_worthOf 5 = .ok (.aload_n 0, 1) := by decide +kernel
theorem dX10_worthOf_6 : decode cX10_worthOf 6 = .ok (.getfield 24, 3) := by decide +kernel
theorem dX10_worthOf_9 : decode cX10_worthOf 9 = .ok (.if_icmp .ge 26, 3) := by decide +kernel
theorem dX10_worthOf_12 : decode cX10_worthOf 12 = .ok (.iload_n 1, 1) := by decide +kernel
theorem dX10_worthOf_13 : decode cX10_worthOf 13 = .ok (.iload_n 3, 1) := by decide +kernel
theorem dX10_worthOf_14 : decode cX10_worthOf 14 = .ok (.ishr, 1) := by decide +kernel
theorem dX10_worthOf_15 : decode cX10_worthOf 15 = .ok (.iconst 1, 1) := by decide +kernel
theorem dX10_worthOf_16 : decode cX10_worthOf 16 = .ok (.iand, 1) := by decide +kernel
theorem dX10_worthOf_17 : decode cX10_worthOf 17 = .ok (.ifCond .eq 12, 3) := by decide +kernel
theorem dX10_worthOf_20 : decode cX10_worthOf 20 = .ok (.iload_n 2, 1) := by decide +kernel
theorem dX10_worthOf_21 : decode cX10_worthOf 21 = .ok (.aload_n 0, 1) := by decide +kernel
theorem dX10_worthOf_22 : decode cX10_worthOf 22 = .ok (.getfield 21, 3) := by decide +kernel
theorem dX10_worthOf_25 : decode cX10_worthOf 25 = .ok (.iload_n 3, 1) := by decide +kernel
theorem dX10_worthOf_26 : decode cX10_worthOf 26 = .ok (.iaload, 1) := by decide +kernel
theorem dX10_worthOf_27 : decode cX10_worthOf 27 = .ok (.iadd, 1) := by decide +kernel
theorem dX10_worthOf_28 : decode cX10_worthOf 28 = .ok (.istore_n 2, 1) := by decide +kernel
theorem dX10_worthOf_29 : decode cX10_worthOf 29 = .ok (.iinc 3 1, 3) := by decide +kernel
theorem dX10_worthOf_32 : decode cX10_worthOf 32 = .ok (.goto (-28), 3) := by decide +kernel
theorem dX10_worthOf_35 : decode cX10_worthOf 35 = .ok (.iload_n 2, 1) := by decide +kernel
theorem dX10_worthOf_36 : decode cX10_worthOf 36 = .ok (.ireturn, 1) := by decide +kernel
def wb_X10_worthOf_29 (K4 : AH → Nat → Int32 → Int32 → Int32 → Prop) (h : AH) (al0 : Nat) (xl1 : Int32) (xl2 : Int32) (xl3 : Int32)  (post : AH → Int32 → Prop) : Prop := ∀ iv1 : Int32, iv1 = xl3 + 1 → (K4 h al0 xl1 xl2 iv1)
set_option maxRecDepth 100000 in
theorem tb_X10_worthOf_29 {G : GG} {p : Program} {l : Launch} {e : Env} {R : Room} {s : State} {m : MethodId} {args : Array Value} {below : List Frame} {meth : Method} {c : Code} {n0 s0 : Nat} {post : AH → Int32 → Prop} (C : Cx G p R s m args meth c 4 cX10_worthOf RX10 n0 s0 0 0) (hr : meth.sig.returnType = (some .int)) {K4 : AH → Nat → Int32 → Int32 → Int32 → Prop} (hK4 : ∀ (h : AH) (al0 : Nat) (xl1 : Int32) (xl2 : Int32) (xl3 : Int32), K4 h al0 xl1 xl2 xl3 → AW G p l e R s m args below meth c 4 (QM G (pI post) args s below n0 s0) 4 [(0, .ref (G.1 + al0)), (1, .int xl1), (2, .int xl2), (3, .int xl3)] [] h) {h : AH} {al0 : Nat} {xl1 : Int32} {xl2 : Int32} {xl3 : Int32}  (hw : wb_X10_worthOf_29 K4 h al0 xl1 xl2 xl3 post) : AW G p l e R s m args below meth c 4 (QM G (pI post) args s below n0 s0) 29 [(0, .ref (G.1 + al0)), (1, .int xl1), (2, .int xl2), (3, .int xl3)] [] h := by
  unfold wb_X10_worthOf_29 at hw
  obtain ⟨iv1, eiv1⟩ : ∃ q : Int32, q = xl3 + 1 := ⟨_, rfl⟩
  replace hw := hw iv1 eiv1
  refine r_iinc C dX10_worthOf_29 3 rfl (by rw [eiv1]; rfl) [(3, .int iv1), (0, .ref (G.1 + al0)), (1, .int xl1), (2, .int xl2)] (by decide) rfl ?_
  refine r_goto C dX10_worthOf_32 4 (by decide) ?_
  refine r_sub [1, 2, 3, 0] rfl ?_
  exact hK4 _ _ _ _ _ hw
def wb_X10_worthOf_4 (K4 : AH → Nat → Int32 → Int32 → Int32 → Prop) (h : AH) (al0 : Nat) (xl1 : Int32) (xl2 : Int32) (xl3 : Int32)  (post : AH → Int32 → Prop) : Prop := (ob h al0 9) ∧ (((aI h al0 0) ≤ xl3 → (post h xl2)) ∧ (¬ (aI h al0 0) ≤ xl3 → ((((xl1 >>> (xl3 &&& 31)) &&& (1 : Int32)) = 0 → (wb_X10_worthOf_29 K4 h al0 xl1 xl2 xl3 post)) ∧ (¬ ((xl1 >>> (xl3 &&& 31)) &&& (1 : Int32)) = 0 → ((ob h al0 9) ∧ (∃ rv1, aP h al0 4 = some rv1 ∧ ((ob h rv1 13) ∧ ((vp_in xl3 (aL h rv1)) ∧ (∀ iv2 : Int32, iv2 = xl2 + (aI h rv1 xl3.toNatClampNeg) → (wb_X10_worthOf_29 K4 h al0 xl1 iv2 xl3 post))))))))))
set_option maxRecDepth 100000 in
theorem tb_X10_worthOf_4 {G : GG} {p : Program} {l : Launch} {e : Env} {R : Room} {s : State} {m : MethodId} {args : Array Value} {below : List Frame} {meth : Method} {c : Code} {n0 s0 : Nat} {post : AH → Int32 → Prop} (C : Cx G p R s m args meth c 4 cX10_worthOf RX10 n0 s0 0 0) (hr : meth.sig.returnType = (some .int)) {K4 : AH → Nat → Int32 → Int32 → Int32 → Prop} (hK4 : ∀ (h : AH) (al0 : Nat) (xl1 : Int32) (xl2 : Int32) (xl3 : Int32), K4 h al0 xl1 xl2 xl3 → AW G p l e R s m args below meth c 4 (QM G (pI post) args s below n0 s0) 4 [(0, .ref (G.1 + al0)), (1, .int xl1), (2, .int xl2), (3, .int xl3)] [] h) {h : AH} {al0 : Nat} {xl1 : Int32} {xl2 : Int32} {xl3 : Int32}  (hw : wb_X10_worthOf_4 K4 h al0 xl1 xl2 xl3 post) : AW G p l e R s m args below meth c 4 (QM G (pI post) args s below n0 s0) 4 [(0, .ref (G.1 + al0)), (1, .int xl1), (2, .int xl2), (3, .int xl3)] [] h := by
  unfold wb_X10_worthOf_4 at hw
  refine r_iload_n C dX10_worthOf_4 3 rfl ?_
  refine r_aload_n C dX10_worthOf_5 0 rfl ?_
  refine r_getI C fl_RX10_24_9 hw.1 (fun _ _ _ => rfl) dX10_worthOf_6 ?_
  replace hw := hw.2
  refine r_icmp_ge C dX10_worthOf_9 35 (by decide) (fun hc => ?_) (fun hc => ?_)
  · replace hw := hw.1 hc
    refine r_iload_n C dX10_worthOf_35 2 rfl ?_
    exact r_iret C hr dX10_worthOf_36 hw
  · replace hw := hw.2 hc
    refine r_iload_n C dX10_worthOf_12 1 rfl ?_
    refine r_iload_n C dX10_worthOf_13 3 rfl ?_
    refine r_ishr C dX10_worthOf_14 ?_
    refine r_iconst (v := 1) C dX10_worthOf_15 (by decide) ?_
    refine r_iand C dX10_worthOf_16 ?_
    refine r_if_eq C dX10_worthOf_17 29 (by decide) (fun hc => ?_) (fun hc => ?_)
    · replace hw := hw.1 hc
      refine r_sub [0, 1, 2, 3] rfl ?_
      exact tb_X10_worthOf_29 C hr hK4 hw
    · replace hw := hw.2 hc
      refine r_iload_n C dX10_worthOf_20 2 rfl ?_
      refine r_aload_n C dX10_worthOf_21 0 rfl ?_
      have hob := hw.1
      obtain ⟨rv1, hp, hw⟩ := hw.2
      refine r_getP C fl_RX10_21_9 hob hp (fun _ _ _ => rfl) dX10_worthOf_22 ?_
      refine r_iload_n C dX10_worthOf_25 3 rfl ?_
      refine r_iaload C hw.1 hw.2.1 dX10_worthOf_26 ?_
      replace hw := hw.2.2
      refine r_iadd C dX10_worthOf_27 ?_
      refine r_topi fun iv2 eiv2 => ?_
      replace hw := hw iv2 eiv2
      refine r_istore_n C dX10_worthOf_28 [(2, .int iv2), (0, .ref (G.1 + al0)), (1, .int xl1), (3, .int xl3)] (by decide) rfl ?_
      refine r_sub [1, 2, 0, 3] rfl ?_
      exact tb_X10_worthOf_29 C hr hK4 hw
def wl_X10_worthOf_4  (post : AH → Int32 → Prop) : Nat → AH → Nat → Int32 → Int32 → Int32 → Prop
  | 0 => fun _ _ _ _ _ => False
  | n + 1 => fun h al0 xl1 xl2 xl3 => wb_X10_worthOf_4  (wl_X10_worthOf_4  post n) h al0 xl1 xl2 xl3 post
theorem tl_X10_worthOf_4 {G : GG} {p : Program} {l : Launch} {e : Env} {R : Room} {s : State} {m : MethodId} {args : Array Value} {below : List Frame} {meth : Method} {c : Code} {n0 s0 : Nat} {post : AH → Int32 → Prop} (C : Cx G p R s m args meth c 4 cX10_worthOf RX10 n0 s0 0 0) (hr : meth.sig.returnType = (some .int))   : ∀ (n : Nat) (h : AH) (al0 : Nat) (xl1 : Int32) (xl2 : Int32) (xl3 : Int32), wl_X10_worthOf_4  post n h al0 xl1 xl2 xl3 → AW G p l e R s m args below meth c 4 (QM G (pI post) args s below n0 s0) 4 [(0, .ref (G.1 + al0)), (1, .int xl1), (2, .int xl2), (3, .int xl3)] [] h := by
  intro n
  induction n with
  | zero => intro h al0 xl1 xl2 xl3 hw; exact hw.elim
  | succ n ih => intro h al0 xl1 xl2 xl3 hw; exact tb_X10_worthOf_4 C hr  ih hw
def wp_X10_worthOf (h : AH) (a0 : Nat) (x1 : Int32) (post : AH → Int32 → Prop) : Prop := ∃ n, wl_X10_worthOf_4  post n h a0 x1 0 0
set_option maxRecDepth 100000 in
theorem c_X10_worthOf (G : GG) (h : AH) (a0 : Nat) (x1 : Int32) (post : AH → Int32 → Prop) (hw : wp_X10_worthOf h a0 x1 post) : MC G yX10_worthOf cX10_worthOf 4 (some .int) 0 0 h [.ref (G.1 + a0), .int x1] (pI post) := by
  refine MC.of (lv := [(0, .ref (G.1 + a0)), (1, .int x1)]) (by decide) (Nat.le_of_ble_eq_true rfl) rfl fun p l e R s m args below meth c C hr hnm => ?_
  unfold wp_X10_worthOf at hw
  refine r_iconst (v := 0) C dX10_worthOf_0 (by decide) ?_
  refine r_istore_n C dX10_worthOf_1 [(2, .int 0), (0, .ref (G.1 + a0)), (1, .int x1)] (by decide) rfl ?_
  refine r_iconst (v := 0) C dX10_worthOf_2 (by decide) ?_
  refine r_istore_n C dX10_worthOf_3 [(3, .int 0), (2, .int 0), (0, .ref (G.1 + a0)), (1, .int x1)] (by decide) rfl ?_
  refine r_sub [2, 3, 1, 0] rfl ?_
  obtain ⟨n, hw⟩ := hw
  exact tl_X10_worthOf_4 C hr  n _ _ _ _ _ hw
theorem dX8_met_0 : decode cX8_met 0 = .ok (.aload_n 0, 1) := by decide +kernel
theorem dX8_met_1 : decode cX8_met 1 = .ok (.getfield 19, 3) := by decide +kernel
theorem dX8_met_4 : decode cX8_met 4 = .ok (.getfield 97, 3) := by decide +kernel
theorem dX8_met_7 : decode cX8_met 7 = .ok (.aload_n 0, 1) := by decide +kernel
theorem dX8_met_8 : decode cX8_met 8 = .ok (.invokevirtual 107, 3) := by decide +kernel
theorem dX8_met_11 : decode cX8_met 11 = .ok (.invokevirtual 111, 3) := by decide +kernel
theorem dX8_met_14 : decode cX8_met 14 = .ok (.ireturn, 1) := by decide +kernel
def wp_X8_met (h : AH) (a0 : Nat) (post : AH → Int32 → Prop) : Prop := (ob h a0 7) ∧ (∃ rv1, aP h a0 0 = some rv1 ∧ ((ob h rv1 1) ∧ (∃ rv2, aP h rv1 15 = some rv2 ∧ ((ob h a0 7) ∧ wp_X8_metBits h a0  (fun hv3 iv4 => (ob hv3 rv2 9) ∧ wp_X10_worthOf hv3 rv2 iv4 (fun hv5 iv6 => post hv5 iv6))))))
set_option maxRecDepth 100000 in
theorem c_X8_met (G : GG) (h : AH) (a0 : Nat) (post : AH → Int32 → Prop) (hw : wp_X8_met h a0 post) : MC G yX8_met cX8_met 1 (some .int) 4 93 h [.ref (G.1 + a0)] (pI post) := by
  refine MC.of (lv := [(0, .ref (G.1 + a0))]) (by decide) (Nat.le_of_ble_eq_true rfl) rfl fun p l e R s m args below meth c C hr hnm => ?_
  unfold wp_X8_met at hw
  refine r_aload_n C dX8_met_0 0 rfl ?_
  have hob := hw.1
  obtain ⟨rv1, hp, hw⟩ := hw.2
  refine r_getP C fl_RX8_19_7 hob hp (fun _ _ _ => rfl) dX8_met_1 ?_
  have hob := hw.1
  obtain ⟨rv2, hp, hw⟩ := hw.2
  refine r_getP C fl_RX8_97_1 hob hp (fun _ _ _ => rfl) dX8_met_4 ?_
  refine r_aload_n C dX8_met_7 0 rfl ?_
  have hob := hw.1
  replace hw := hw.2
  refine r_callV C (As := []) (rest := [.ref (G.1 + rv2)]) (c_X8_metBits G h a0  _ hw) yl_X8_metBits (gm4 (List.mem_of_getElem? (i := 198) rfl) rfl) (gm4 (List.mem_of_getElem? (i := 199) rfl) rfl) (ci := 7) rfl (by decide) (gm4 (List.mem_of_getElem? (i := 200) rfl) rfl) hob (by decide) rfl (Nat.le_of_ble_eq_true rfl) dX8_met_8 rfl (kI fun hv3 iv4 hw => ?_)
  have hob := hw.1
  replace hw := hw.2
  refine r_callV C (As := [.int iv4]) (rest := []) (c_X10_worthOf G hv3 rv2 iv4 _ hw) yl_X10_worthOf (gm4 (List.mem_of_getElem? (i := 219) rfl) rfl) (gm4 (List.mem_of_getElem? (i := 220) rfl) rfl) (ci := 9) rfl (by decide) (gm4 (List.mem_of_getElem? (i := 221) rfl) rfl) hob (by decide) rfl (Nat.le_of_ble_eq_true rfl) dX8_met_11 rfl (kI fun hv5 iv6 hw => ?_)
  exact r_iret C hr dX8_met_14 hw
theorem dX8_isSquareTaken_0 : decode cX8_isSquareTaken 0 = .ok (.aload_n 0, 1) := by decide +kernel
theorem dX8_isSquareTaken_1 : decode cX8_isSquareTaken 1 = .ok (.iconst (-1), 1) := by decide +kernel
theorem dX8_isSquareTaken_2 : decode cX8_isSquareTaken 2 = .ok (.invokevirtual 90, 3) := by decide +kernel
theorem dX8_isSquareTaken_5 : decode cX8_isSquareTaken 5 = .ok (.aload_n 0, 1) := by decide +kernel
theorem dX8_isSquareTaken_6 : decode cX8_isSquareTaken 6 = .ok (.getfield 19, 3) := by decide +kernel
theorem dX8_isSquareTaken_9 : decode cX8_isSquareTaken 9 = .ok (.getfield 115, 3) := by decide +kernel
theorem dX8_isSquareTaken_12 : decode cX8_isSquareTaken 12 = .ok (.land, 1) := by decide +kernel
theorem dX8_isSquareTaken_13 : decode cX8_isSquareTaken 13 = .ok (.lconst 0, 1) := by decide +kernel
theorem dX8_isSquareTaken_14 : decode cX8_isSquareTaken 14 = .ok (.lcmp, 1) := by decide +kernel
theorem dX8_isSquareTaken_15 : decode cX8_isSquareTaken 15 = .ok (.ifCond .eq 7, 3) := by decide +kernel
theorem dX8_isSquareTaken_18 : decode cX8_isSquareTaken 18 = .ok (.iconst 1, 1) := by decide +kernel
theorem dX8_isSquareTaken_19 : decode cX8_isSquareTaken 19 = .ok (.goto 4, 3) := by decide +kernel
theorem dX8_isSquareTaken_22 : decode cX8_isSquareTaken 22 = .ok (.iconst 0, 1) := by decide +kernel
theorem dX8_isSquareTaken_23 : decode cX8_isSquareTaken 23 = .ok (.ireturn, 1) := by decide +kernel
def wp_X8_isSquareTaken (h : AH) (a0 : Nat) (post : AH → Int32 → Prop) : Prop := (ob h a0 7) ∧ wp_X8_coveredBut h a0 (-1) (fun hv1 jv2 => (ob hv1 a0 7) ∧ (∃ rv3, aP hv1 a0 0 = some rv3 ∧ ((ob hv1 rv3 1) ∧ (((lg_cmp (jv2 &&& (aJ hv1 rv3 13)) 0) = 0 → (((0 : Int32) = 0 ∨ (0 : Int32) = 1) ∧ post hv1 0)) ∧ (¬ (lg_cmp (jv2 &&& (aJ hv1 rv3 13)) 0) = 0 → (((1 : Int32) = 0 ∨ (1 : Int32) = 1) ∧ post hv1 1))))))
set_option maxRecDepth 100000 in
theorem c_X8_isSquareTaken (G : GG) (h : AH) (a0 : Nat) (post : AH → Int32 → Prop) (hw : wp_X8_isSquareTaken h a0 post) : MC G yX8_isSquareTaken cX8_isSquareTaken 1 (some .boolean) 1 24 h [.ref (G.1 + a0)] (pI post) := by
  refine MC.of (lv := [(0, .ref (G.1 + a0))]) (by decide) (Nat.le_of_ble_eq_true rfl) rfl fun p l e R s m args below meth c C hr hnm => ?_
  unfold wp_X8_isSquareTaken at hw
  refine r_aload_n C dX8_isSquareTaken_0 0 rfl ?_
  refine r_iconst (v := (-1)) C dX8_isSquareTaken_1 (by decide) ?_
  have hob := hw.1
  replace hw := hw.2
  refine r_callV C (As := [.int (-1)]) (rest := []) (c_X8_coveredBut G h a0 (-1) _ hw) yl_X8_coveredBut (gm4 (List.mem_of_getElem? (i := 180) rfl) rfl) (gm4 (List.mem_of_getElem? (i := 181) rfl) rfl) (ci := 7) rfl (by decide) (gm4 (List.mem_of_getElem? (i := 182) rfl) rfl) hob (by decide) rfl (Nat.le_of_ble_eq_true rfl) dX8_isSquareTaken_2 rfl (kJ fun hv1 jv2 hw => ?_)
  refine r_aload_n C dX8_isSquareTaken_5 0 rfl ?_
  have hob := hw.1
  obtain ⟨rv3, hp, hw⟩ := hw.2
  refine r_getP C fl_RX8_19_7 hob hp (fun _ _ _ => rfl) dX8_isSquareTaken_6 ?_
  refine r_getJ C fl_RX8_115_1 hw.1 (fun _ _ _ => rfl) dX8_isSquareTaken_9 ?_
  replace hw := hw.2
  refine r_land C dX8_isSquareTaken_12 ?_
  refine r_lconst (v := 0) C dX8_isSquareTaken_13 (by decide) ?_
  refine r_lcmp C dX8_isSquareTaken_14 ?_
  refine r_if_eq C dX8_isSquareTaken_15 22 (by decide) (fun hc => ?_) (fun hc => ?_)
  · replace hw := hw.1 hc
    refine r_iconst (v := 0) C dX8_isSquareTaken_22 (by decide) ?_
    exact r_zret C hr dX8_isSquareTaken_23 hw.1 hw.2
  · replace hw := hw.2 hc
    refine r_iconst (v := 1) C dX8_isSquareTaken_18 (by decide) ?_
    refine r_goto C dX8_isSquareTaken_19 23 (by decide) ?_
    exact r_zret C hr dX8_isSquareTaken_23 hw.1 hw.2
theorem dX9_init_0 : decode cX9_init 0 = .ok (.aload_n 0, 1) := by decide +kernel
theorem dX9_init_1 : decode cX9_init 1 = .ok (.invokespecial 3, 3) := by decide +kernel
theorem dX9_init_4 : decode cX9_init 4 = .ok (.aload_n 0, 1) := by decide +kernel
theorem dX9_init_5 : decode cX9_init 5 = .ok (.new 9, 3) := by decide +kernel
theorem dX9_init_8 : decode cX9_init 8 = .ok (.dup, 1) := by decide +kernel
theorem dX9_init_9 : decode cX9_init 9 = .ok (.aload_n 1, 1) := by decide +kernel
theorem dX9_init_10 : decode cX9_init 10 = .ok (.invokespecial 11, 3) := by decide +kernel
theorem dX9_init_13 : decode cX9_init 13 = .ok (.putfield 14, 3) := by decide +kernel
theorem dX9_init_16 : decode cX9_init 16 = .ok (.return_, 1) := by decide +kernel
def wp_X9_init (h : AH) (a0 : Nat) (a1 : Nat) (post : AH → Prop) : Prop := (aN h < 601024 ∧ aS h + 3 ≤ 7293034) ∧ (∀ (hv1 : AH) (rv2 : Nat), hv1 = hNew h 7 3 → rv2 = aN h → (wp_X8_init hv1 rv2 a1 (fun hv3  => (ob hv3 a0 8) ∧ (∀ hv4 : AH, hv4 = hP hv3 a0 0 rv2 → (post hv4)))))
set_option maxRecDepth 100000 in
theorem c_X9_init (G : GG) (h : AH) (a0 : Nat) (a1 : Nat) (post : AH → Prop) (hw : wp_X9_init h a0 a1 post) : MC G yX9_init cX9_init 2 none 2 41 h [.ref (G.1 + a0), .ref (G.1 + a1)] (pV post) := by
  refine MC.of (lv := [(0, .ref (G.1 + a0)), (1, .ref (G.1 + a1))]) (by decide) (Nat.le_of_ble_eq_true rfl) rfl fun p l e R s m args below meth c C hr hnm => ?_
  unfold wp_X9_init at hw
  refine r_aload_n C dX9_init_0 0 rfl ?_
  refine r_objInit C (gm2 (List.mem_of_getElem? (i := 162) rfl) rfl) (gm1 (List.mem_of_getElem? (i := 32) rfl) rfl) (gm1 (List.mem_of_getElem? (i := 33) rfl) rfl) dX9_init_1 ⟨by decide, Nat.le_of_ble_eq_true rfl⟩ ?_
  refine r_aload_n C dX9_init_4 0 rfl ?_
  refine r_new C (ci := 7) nl_RX9_9 hw.1 dX9_init_5 ?_
  replace hw := hw.2
  refine r_topn fun hv1 rv2 ehv1 erv2 => ?_
  replace hw := hw hv1 rv2 ehv1 erv2
  refine r_dup C dX9_init_8 rfl ?_
  refine r_aload_n C dX9_init_9 1 rfl ?_
  refine r_callI C (As := [.ref (G.1 + a1)]) (rest := [.ref (G.1 + rv2), .ref (G.1 + a0)]) (c_X8_init G hv1 rv2 a1 _ hw) yl_X8_init (gm2 (List.mem_of_getElem? (i := 164) rfl) rfl) (gm2 (List.mem_of_getElem? (i := 112) rfl) rfl) rfl (by decide) rfl (Nat.le_of_ble_eq_true rfl) dX9_init_10 rfl (kV fun hv3  hw => ?_)
  refine r_putPF C ff_RX9_14_8 hnm hw.1 (fun _ _ _ => rfl) dX9_init_13 ?_
  replace hw := hw.2
  refine r_toph fun hv4 ehv4 => ?_
  replace hw := hw hv4 ehv4
  exact r_vret C hr dX9_init_16 hw
theorem dX9_begin_0 : decode cX9_begin 0 = .ok (.aload_n 0, 1) := by decide +kernel
theorem dX9_begin_1 : decode cX9_begin 1 = .ok (.getfield 14, 3) := by decide +kernel
theorem dX9_begin_4 : decode cX9_begin 4 = .ok (.aload_n 1, 1) := by decide +kernel
theorem dX9_begin_5 : decode cX9_begin 5 = .ok (.aload_n 2, 1) := by decide +kernel
theorem dX9_begin_6 : decode cX9_begin 6 = .ok (.invokevirtual 20, 3) := by decide +kernel
theorem dX9_begin_9 : decode cX9_begin 9 = .ok (.aload_n 0, 1) := by decide +kernel
theorem dX9_begin_10 : decode cX9_begin 10 = .ok (.iload_n 3, 1) := by decide +kernel
theorem dX9_begin_11 : decode cX9_begin 11 = .ok (.putfield 24, 3) := by decide +kernel
theorem dX9_begin_14 : decode cX9_begin 14 = .ok (.aload_n 0, 1) := by decide +kernel
theorem dX9_begin_15 : decode cX9_begin 15 = .ok (.iconst 0, 1) := by decide +kernel
theorem dX9_begin_16 : decode cX9_begin 16 = .ok (.putfield 28, 3) := by decide +kernel
theorem dX9_begin_19 : decode cX9_begin 19 = .ok (.aload_n 0, 1) := by decide +kernel
theorem dX9_begin_20 : decode cX9_begin 20 = .ok (.iconst 0, 1) := by decide +kernel
theorem dX9_begin_21 : decode cX9_begin 21 = .ok (.putfield 31, 3) := by decide +kernel
theorem dX9_begin_24 : decode cX9_begin 24 = .ok (.aload_n 0, 1) := by decide +kernel
theorem dX9_begin_25 : decode cX9_begin 25 = .ok (.iconst 0, 1) := by decide +kernel
theorem dX9_begin_26 : decode cX9_begin 26 = .ok (.putfield 34, 3) := by decide +kernel
theorem dX9_begin_29 : decode cX9_begin 29 = .ok (.aload_n 0, 1) := by decide +kernel
theorem dX9_begin_30 : decode cX9_begin 30 = .ok (.iconst (-1), 1) := by decide +kernel
theorem dX9_begin_31 : decode cX9_begin 31 = .ok (.putfield 37, 3) := by decide +kernel
theorem dX9_begin_34 : decode cX9_begin 34 = .ok (.return_, 1) := by decide +kernel
def wp_X9_begin (h : AH) (a0 : Nat) (a1 : Nat) (a2 : Nat) (x3 : Int32) (post : AH → Prop) : Prop := (ob h a0 8) ∧ (∃ rv1, aP h a0 0 = some rv1 ∧ ((ob h rv1 7) ∧ wp_X8_follow h rv1 a1 a2 (fun hv2  => (ob hv2 a0 8) ∧ (∀ hv3 : AH, hv3 = hI hv2 a0 1 x3 → ((ob hv3 a0 8) ∧ (∀ hv4 : AH, hv4 = hI hv3 a0 2 0 → ((ob hv4 a0 8) ∧ (∀ hv5 : AH, hv5 = hI hv4 a0 3 0 → ((ob hv5 a0 8) ∧ (∀ hv6 : AH, hv6 = hI hv5 a0 4 0 → ((ob hv6 a0 8) ∧ (∀ hv7 : AH, hv7 = hI hv6 a0 5 (-1) → (post hv7)))))))))))))
set_option maxRecDepth 100000 in
theorem c_X9_begin (G : GG) (h : AH) (a0 : Nat) (a1 : Nat) (a2 : Nat) (x3 : Int32) (post : AH → Prop) (hw : wp_X9_begin h a0 a1 a2 x3 post) : MC G yX9_begin cX9_begin 4 none 2 48 h [.ref (G.1 + a0), .ref (G.1 + a1), .ref (G.1 + a2), .int x3] (pV post) := by
  refine MC.of (lv := [(0, .ref (G.1 + a0)), (1, .ref (G.1 + a1)), (2, .ref (G.1 + a2)), (3, .int x3)]) (by decide) (Nat.le_of_ble_eq_true rfl) rfl fun p l e R s m args below meth c C hr hnm => ?_
  unfold wp_X9_begin at hw
  refine r_aload_n C dX9_begin_0 0 rfl ?_
  have hob := hw.1
  obtain ⟨rv1, hp, hw⟩ := hw.2
  refine r_getP C fl_RX9_14_8 hob hp (fun _ _ _ => rfl) dX9_begin_1 ?_
  refine r_aload_n C dX9_begin_4 1 rfl ?_
  refine r_aload_n C dX9_begin_5 2 rfl ?_
  have hob := hw.1
  replace hw := hw.2
  refine r_callV C (As := [.ref (G.1 + a1), .ref (G.1 + a2)]) (rest := []) (c_X8_follow G h rv1 a1 a2 _ hw) yl_X8_follow (gm5 (List.mem_of_getElem? (i := 33) rfl) rfl) (gm4 (List.mem_of_getElem? (i := 117) rfl) rfl) (ci := 7) rfl (by decide) (gm4 (List.mem_of_getElem? (i := 118) rfl) rfl) hob (by decide) rfl (Nat.le_of_ble_eq_true rfl) dX9_begin_6 rfl (kV fun hv2  hw => ?_)
  refine r_aload_n C dX9_begin_9 0 rfl ?_
  refine r_iload_n C dX9_begin_10 3 rfl ?_
  refine r_putI C fp_RX9_24_8 hw.1 rfl dX9_begin_11 ?_
  replace hw := hw.2
  refine r_toph fun hv3 ehv3 => ?_
  replace hw := hw hv3 ehv3
  refine r_aload_n C dX9_begin_14 0 rfl ?_
  refine r_iconst (v := 0) C dX9_begin_15 (by decide) ?_
  refine r_putI C fp_RX9_28_8 hw.1 rfl dX9_begin_16 ?_
  replace hw := hw.2
  refine r_toph fun hv4 ehv4 => ?_
  replace hw := hw hv4 ehv4
  refine r_aload_n C dX9_begin_19 0 rfl ?_
  refine r_iconst (v := 0) C dX9_begin_20 (by decide) ?_
  refine r_putI C fp_RX9_31_8 hw.1 rfl dX9_begin_21 ?_
  replace hw := hw.2
  refine r_toph fun hv5 ehv5 => ?_
  replace hw := hw hv5 ehv5
  refine r_aload_n C dX9_begin_24 0 rfl ?_
  refine r_iconst (v := 0) C dX9_begin_25 (by decide) ?_
  refine r_putI C fp_RX9_34_8 hw.1 rfl dX9_begin_26 ?_
  replace hw := hw.2
  refine r_toph fun hv6 ehv6 => ?_
  replace hw := hw hv6 ehv6
  refine r_aload_n C dX9_begin_29 0 rfl ?_
  refine r_iconst (v := (-1)) C dX9_begin_30 (by decide) ?_
  refine r_putI C fp_RX9_37_8 hw.1 rfl dX9_begin_31 ?_
  replace hw := hw.2
  refine r_toph fun hv7 ehv7 => ?_
  replace hw := hw hv7 ehv7
  exact r_vret C hr dX9_begin_34 hw
theorem dX9_follow_0 : decode cX9_follow 0 = .ok (.aload_n 0, 1) := by decide +kernel
theorem dX9_follow_1 : decode cX9_follow 1 = .ok (.getfield 14, 3) := by decide +kernel
theorem dX9_follow_4 : decode cX9_follow 4 = .ok (.aload_n 1, 1) := by decide +kernel
theorem dX9_follow_5 : decode cX9_follow 5 = .ok (.getfield 14, 3) := by decide +kernel
theorem dX9_follow_8 : decode cX9_follow 8 = .ok (.getfield 40, 3) := by decide +kernel
theorem dX9_follow_11 : decode cX9_follow 11 = .ok (.aload_n 1, 1) := by decide +kernel
theorem dX9_follow_12 : decode cX9_follow 12 = .ok (.getfield 14, 3) := by decide +kernel
theorem dX9_follow_15 : decode cX9_follow 15 = .ok (.invokevirtual 20, 3) := by decide +kernel
theorem dX9_follow_18 : decode cX9_follow 18 = .ok (.aload_n 0, 1) := by decide +kernel
theorem dX9_follow_19 : decode cX9_follow 19 = .ok (.aload_n 1, 1) := by decide +kernel
theorem dX9_follow_20 : decode cX9_follow 20 = .ok (.getfield 24, 3) := by decide +kernel
theorem dX9_follow_23 : decode cX9_follow 23 = .ok (.putfield 24, 3) := by decide +kernel
theorem dX9_follow_26 : decode cX9_follow 26 = .ok (.aload_n 0, 1) := by decide +kernel
theorem dX9_follow_27 : decode cX9_follow 27 = .ok (.aload_n 1, 1) := by decide +kernel
theorem dX9_follow_28 : decode cX9_follow 28 = .ok (.getfield 28, 3) := by decide +kernel
theorem dX9_follow_31 : decode cX9_follow 31 = .ok (.putfield 28, 3) := by decide +kernel
theorem dX9_follow_34 : decode cX9_follow 34 = .ok (.aload_n 0, 1) := by decide +kernel
theorem dX9_follow_35 : decode cX9_follow 35 = .ok (.aload_n 1, 1) := by decide +kernel
theorem dX9_follow_36 : decode cX9_follow 36 = .ok (.getfield 31, 3) := by decide +kernel
theorem dX9_follow_39 : decode cX9_follow 39 = .ok (.putfield 31, 3) := by decide +kernel
theorem dX9_follow_42 : decode cX9_follow 42 = .ok (.aload_n 0, 1) := by decide +kernel
theorem dX9_follow_43 : decode cX9_follow 43 = .ok (.aload_n 1, 1) := by decide +kernel
theorem dX9_follow_44 : decode cX9_follow 44 = .ok (.getfield 34, 3) := by decide +kernel
theorem dX9_follow_47 : decode cX9_follow 47 = .ok (.putfield 34, 3) := by decide +kernel
theorem dX9_follow_50 : decode cX9_follow 50 = .ok (.aload_n 0, 1) := by decide +kernel
theorem dX9_follow_51 : decode cX9_follow 51 = .ok (.aload_n 1, 1) := by decide +kernel
theorem dX9_follow_52 : decode cX9_follow 52 = .ok (.getfield 37, 3) := by decide +kernel
theorem dX9_follow_55 : decode cX9_follow 55 = .ok (.putfield 37, 3) := by decide +kernel
theorem dX9_follow_58 : decode cX9_follow 58 = .ok (.return_, 1) := by decide +kernel
def wp_X9_follow (h : AH) (a0 : Nat) (a1 : Nat) (post : AH → Prop) : Prop := (ob h a0 8) ∧ (∃ rv1, aP h a0 0 = some rv1 ∧ ((ob h a1 8) ∧ (∃ rv2, aP h a1 0 = some rv2 ∧ ((ob h rv2 7) ∧ (∃ rv3, aP h rv2 0 = some rv3 ∧ ((ob h a1 8) ∧ (∃ rv4, aP h a1 0 = some rv4 ∧ ((ob h rv1 7) ∧ wp_X8_follow h rv1 rv3 rv4 (fun hv5  => (ob hv5 a1 8) ∧ ((ob hv5 a0 8) ∧ (∀ hv6 : AH, hv6 = hI hv5 a0 1 (aI hv5 a1 1) → ((ob hv6 a1 8) ∧ ((ob hv6 a0 8) ∧ (∀ hv7 : AH, hv7 = hI hv6 a0 2 (aI hv6 a1 2) → ((ob hv7 a1 8) ∧ ((ob hv7 a0 8) ∧ (∀ hv8 : AH, hv8 = hI hv7 a0 3 (aI hv7 a1 3) → ((ob hv8 a1 8) ∧ ((ob hv8 a0 8) ∧ (∀ hv9 : AH, hv9 = hI hv8 a0 4 (aI hv8 a1 4) → ((ob hv9 a1 8) ∧ ((ob hv9 a0 8) ∧ (∀ hv10 : AH, hv10 = hI hv9 a0 5 (aI hv9 a1 5) → (post hv10))))))))))))))))))))))))
set_option maxRecDepth 100000 in
theorem c_X9_follow (G : GG) (h : AH) (a0 : Nat) (a1 : Nat) (post : AH → Prop) (hw : wp_X9_follow h a0 a1 post) : MC G yX9_follow cX9_follow 2 none 2 48 h [.ref (G.1 + a0), .ref (G.1 + a1)] (pV post) := by
  refine MC.of (lv := [(0, .ref (G.1 + a0)), (1, .ref (G.1 + a1))]) (by decide) (Nat.le_of_ble_eq_true rfl) rfl fun p l e R s m args below meth c C hr hnm => ?_
  unfold wp_X9_follow at hw
  refine r_aload_n C dX9_follow_0 0 rfl ?_
  have hob := hw.1
  obtain ⟨rv1, hp, hw⟩ := hw.2
  refine r_getP C fl_RX9_14_8 hob hp (fun _ _ _ => rfl) dX9_follow_1 ?_
  refine r_aload_n C dX9_follow_4 1 rfl ?_
  have hob := hw.1
  obtain ⟨rv2, hp, hw⟩ := hw.2
  refine r_getP C fl_RX9_14_8 hob hp (fun _ _ _ => rfl) dX9_follow_5 ?_
  have hob := hw.1
  obtain ⟨rv3, hp, hw⟩ := hw.2
  refine r_getPN C ci7 (k := 0) (by decide) (List.mem_of_getElem? (i := 5) rfl) rfl hob hp (fun _ _ _ => rfl) dX9_follow_8 ?_
  refine r_aload_n C dX9_follow_11 1 rfl ?_
  have hob := hw.1
  obtain ⟨rv4, hp, hw⟩ := hw.2
  refine r_getP C fl_RX9_14_8 hob hp (fun _ _ _ => rfl) dX9_follow_12 ?_
  have hob := hw.1
  replace hw := hw.2
  refine r_callV C (As := [.ref (G.1 + rv3), .ref (G.1 + rv4)]) (rest := []) (c_X8_follow G h rv1 rv3 rv4 _ hw) yl_X8_follow (gm5 (List.mem_of_getElem? (i := 33) rfl) rfl) (gm4 (List.mem_of_getElem? (i := 117) rfl) rfl) (ci := 7) rfl (by decide) (gm4 (List.mem_of_getElem? (i := 118) rfl) rfl) hob (by decide) rfl (Nat.le_of_ble_eq_true rfl) dX9_follow_15 rfl (kV fun hv5  hw => ?_)
  refine r_aload_n C dX9_follow_18 0 rfl ?_
  refine r_aload_n C dX9_follow_19 1 rfl ?_
  refine r_getI C fl_RX9_24_8 hw.1 (fun _ _ _ => rfl) dX9_follow_20 ?_
  replace hw := hw.2
  refine r_putI C fp_RX9_24_8 hw.1 rfl dX9_follow_23 ?_
  replace hw := hw.2
  refine r_toph fun hv6 ehv6 => ?_
  replace hw := hw hv6 ehv6
  refine r_aload_n C dX9_follow_26 0 rfl ?_
  refine r_aload_n C dX9_follow_27 1 rfl ?_
  refine r_getI C fl_RX9_28_8 hw.1 (fun _ _ _ => rfl) dX9_follow_28 ?_
  replace hw := hw.2
  refine r_putI C fp_RX9_28_8 hw.1 rfl dX9_follow_31 ?_
  replace hw := hw.2
  refine r_toph fun hv7 ehv7 => ?_
  replace hw := hw hv7 ehv7
  refine r_aload_n C dX9_follow_34 0 rfl ?_
  refine r_aload_n C dX9_follow_35 1 rfl ?_
  refine r_getI C fl_RX9_31_8 hw.1 (fun _ _ _ => rfl) dX9_follow_36 ?_
  replace hw := hw.2
  refine r_putI C fp_RX9_31_8 hw.1 rfl dX9_follow_39 ?_
  replace hw := hw.2
  refine r_toph fun hv8 ehv8 => ?_
  replace hw := hw hv8 ehv8
  refine r_aload_n C dX9_follow_42 0 rfl ?_
  refine r_aload_n C dX9_follow_43 1 rfl ?_
  refine r_getI C fl_RX9_34_8 hw.1 (fun _ _ _ => rfl) dX9_follow_44 ?_
  replace hw := hw.2
  refine r_putI C fp_RX9_34_8 hw.1 rfl dX9_follow_47 ?_
  replace hw := hw.2
  refine r_toph fun hv9 ehv9 => ?_
  replace hw := hw hv9 ehv9
  refine r_aload_n C dX9_follow_50 0 rfl ?_
  refine r_aload_n C dX9_follow_51 1 rfl ?_
  refine r_getI C fl_RX9_37_8 hw.1 (fun _ _ _ => rfl) dX9_follow_52 ?_
  replace hw := hw.2
  refine r_putI C fp_RX9_37_8 hw.1 rfl dX9_follow_55 ?_
  replace hw := hw.2
  refine r_toph fun hv10 ehv10 => ?_
  replace hw := hw hv10 ehv10
  exact r_vret C hr dX9_follow_58 hw
theorem dX9_pass_0 : decode cX9_pass 0 = .ok (.aload_n 0, 1) := by decide +kernel
theorem dX9_pass_1 : decode cX9_pass 1 = .ok (.getfield 14, 3) := by decide +kernel
theorem dX9_pass_4 : decode cX9_pass 4 = .ok (.invokevirtual 72, 3) := by decide +kernel
theorem dX9_pass_7 : decode cX9_pass 7 = .ok (.istore_n 2, 1) := by decide +kernel
theorem dX9_pass_8 : decode cX9_pass 8 = .ok (.iconst 0, 1) := by decide +kernel
theorem dX9_pass_9 : decode cX9_pass 9 = .ok (.istore_n 3, 1) := by decide +kernel
theorem dX9_pass_10 : decode cX9_pass 10 = .ok (.iload_n 3, 1) := by decide +kernel
theorem dX9_pass_11 : decode cX9_pass 11 = .ok (.iload_n 1, 1) := by decide +kernel
theorem dX9_pass_12 : decode cX9_pass 12 = .ok (.if_icmp .ge 67, 3) := by decide +kernel
theorem dX9_pass_15 : decode cX9_pass 15 = .ok (.iload_n 2, 1) := by decide +kernel
theorem dX9_pass_16 : decode cX9_pass 16 = .ok (.ifCond .eq 47, 3) := by decide +kernel
theorem dX9_pass_19 : decode cX9_pass 19 = .ok (.aload_n 0, 1) := by decide +kernel
theorem dX9_pass_20 : decode cX9_pass 20 = .ok (.getfield 24, 3) := by decide +kernel
theorem dX9_pass_23 : decode cX9_pass 23 = .ok (.aload_n 0, 1) := by decide +kernel
theorem dX9_pass_24 : decode cX9_pass 24 = .ok (.getfield 28, 3) := by decide +kernel
theorem dX9_pass_27 : decode cX9_pass 27 = .ok (.iadd, 1) := by decide +kernel
theorem dX9_pass_28 : decode cX9_pass 28 = .ok (.iconst 4, 1) := by decide +kernel
theorem dX9_pass_29 : decode cX9_pass 29 = .ok (.idiv, 1) := by decide +kernel
theorem dX9_pass_30 : decode cX9_pass 30 = .ok (.bipush 24, 2) := by decide +kernel
theorem dX9_pass_32 : decode cX9_pass 32 = .ok (.irem, 1) := by decide +kernel
theorem dX9_pass_33 : decode cX9_pass 33 = .ok (.bipush 12, 2) := by decide +kernel
theorem dX9_pass_35 : decode cX9_pass 35 = .ok (.if_icmp .ne 28, 3) := by decide +kernel
theorem dX9_pass_38 : decode cX9_pass 38 = .ok (.aload_n 0, 1) := by decide +kernel
theorem dX9_pass_39 : decode cX9_pass 39 = .ok (.getfield 34, 3) := by decide +kernel
theorem dX9_pass_42 : decode cX9_pass 42 = .ok (.ifCond .ne 11, 3) := by decide +kernel
theorem dX9_pass_45 : decode cX9_pass 45 = .ok (.aload_n 0, 1) := by decide +kernel
theorem dX9_pass_46 : decode cX9_pass 46 = .ok (.aload_n 0, 1) := by decide +kernel
theorem dX9_pass_47 : decode cX9_pass 47 = .ok (.getfield 28, 3) := by decide +kernel
theorem dX9_pass_50 : decode cX9_pass 50 = .ok (.putfield 37, 3) := by decide +kernel
theorem dX9_pass_53 : decode cX9_pass 53 = .ok (.aload_n 0, 1) := by decide +kernel
theorem dX9_pass_54 : decode cX9_pass 54 = .ok (.dup, 1) := by decide +kernel
theorem dX9_pass_55 : decode cX9_pass 55 = .ok (.getfield 34, 3) := by decide +kernel
theorem dX9_pass_58 : decode cX9_pass 58 = .ok (.iconst 1, 1) := by decide +kernel
theorem dX9_pass_59 : decode cX9_pass 59 = .ok (.iadd, 1) := by decide +kernel
theorem dX9_pass_60 : decode cX9_pass 60 = .ok (.putfield 34, 3) := by decide +kernel
theorem dX9_pass_63 : decode cX9_pass 63 = .ok (.aload_n 0, 1) := by decide +kernel
theorem dX9_pass_64 : decode cX9_pass 64 = .ok (.dup, 1) := by decide +kernel
theorem dX9_pass_65 : decode cX9_pass 65 = .ok (.getfield 28, 3) := by decide +kernel
theorem dX9_pass_68 : decode cX9_pass 68 = .ok (.iconst 1, 1) := by decide +kernel
theorem dX9_pass_69 : decode cX9_pass 69 = .ok (.iadd, 1) := by decide +kernel
theorem dX9_pass_70 : decode cX9_pass 70 = .ok (.putfield 28, 3) := by decide +kernel
theorem dX9_pass_73 : decode cX9_pass 73 = .ok (.iinc 3 1, 3) := by decide +kernel
theorem dX9_pass_76 : decode cX9_pass 76 = .ok (.goto (-66), 3) := by decide +kernel
theorem dX9_pass_79 : decode cX9_pass 79 = .ok (.return_, 1) := by decide +kernel
def wb_X9_pass_63 (K10 : AH → Nat → Int32 → Int32 → Int32 → Prop) (h : AH) (al0 : Nat) (xl1 : Int32) (xl2 : Int32) (xl3 : Int32)  (post : AH → Prop) : Prop := (ob h al0 8) ∧ ((ob h al0 8) ∧ (∀ hv1 : AH, hv1 = hI h al0 2 ((aI h al0 2) + (1 : Int32)) → (∀ iv2 : Int32, iv2 = xl3 + 1 → (K10 hv1 al0 xl1 xl2 iv2))))
set_option maxRecDepth 100000 in
theorem tb_X9_pass_63 {G : GG} {p : Program} {l : Launch} {e : Env} {R : Room} {s : State} {m : MethodId} {args : Array Value} {below : List Frame} {meth : Method} {c : Code} {n0 s0 : Nat} {post : AH → Prop} (C : Cx G p R s m args meth c 4 cX9_pass RX9 n0 s0 2 44) (hr : meth.sig.returnType = none) {K10 : AH → Nat → Int32 → Int32 → Int32 → Prop} (hK10 : ∀ (h : AH) (al0 : Nat) (xl1 : Int32) (xl2 : Int32) (xl3 : Int32), K10 h al0 xl1 xl2 xl3 → AW G p l e R s m args below meth c 4 (QM G (pV post) args s below n0 s0) 10 [(0, .ref (G.1 + al0)), (1, .int xl1), (2, .int xl2), (3, .int xl3)] [] h) {h : AH} {al0 : Nat} {xl1 : Int32} {xl2 : Int32} {xl3 : Int32}  (hw : wb_X9_pass_63 K10 h al0 xl1 xl2 xl3 post) : AW G p l e R s m args below meth c 4 (QM G (pV post) args s below n0 s0) 63 [(0, .ref (G.1 + al0)), (1, .int xl1), (2, .int xl2), (3, .int xl3)] [] h := by
  unfold wb_X9_pass_63 at hw
  refine r_aload_n C dX9_pass_63 0 rfl ?_
  refine r_dup C dX9_pass_64 rfl ?_
  refine r_getI C fl_RX9_28_8 hw.1 (fun _ _ _ => rfl) dX9_pass_65 ?_
  replace hw := hw.2
  refine r_iconst (v := 1) C dX9_pass_68 (by decide) ?_
  refine r_iadd C dX9_pass_69 ?_
  refine r_putI C fp_RX9_28_8 hw.1 rfl dX9_pass_70 ?_
  replace hw := hw.2
  refine r_toph fun hv1 ehv1 => ?_
  replace hw := hw hv1 ehv1
  obtain ⟨iv2, eiv2⟩ : ∃ q : Int32, q = xl3 + 1 := ⟨_, rfl⟩
  replace hw := hw iv2 eiv2
  refine r_iinc C dX9_pass_73 3 rfl (by rw [eiv2]; rfl) [(3, .int iv2), (0, .ref (G.1 + al0)), (1, .int xl1), (2, .int xl2)] (by decide) rfl ?_
  refine r_goto C dX9_pass_76 10 (by decide) ?_
  refine r_sub [1, 2, 3, 0] rfl ?_
  exact hK10 _ _ _ _ _ hw
def wb_X9_pass_53 (K10 : AH → Nat → Int32 → Int32 → Int32 → Prop) (h : AH) (al0 : Nat) (xl1 : Int32) (xl2 : Int32) (xl3 : Int32)  (post : AH → Prop) : Prop := (ob h al0 8) ∧ ((ob h al0 8) ∧ (∀ hv1 : AH, hv1 = hI h al0 4 ((aI h al0 4) + (1 : Int32)) → (wb_X9_pass_63 K10 hv1 al0 xl1 xl2 xl3 post)))
set_option maxRecDepth 100000 in
theorem tb_X9_pass_53 {G : GG} {p : Program} {l : Launch} {e : Env} {R : Room} {s : State} {m : MethodId} {args : Array Value} {below : List Frame} {meth : Method} {c : Code} {n0 s0 : Nat} {post : AH → Prop} (C : Cx G p R s m args meth c 4 cX9_pass RX9 n0 s0 2 44) (hr : meth.sig.returnType = none) {K10 : AH → Nat → Int32 → Int32 → Int32 → Prop} (hK10 : ∀ (h : AH) (al0 : Nat) (xl1 : Int32) (xl2 : Int32) (xl3 : Int32), K10 h al0 xl1 xl2 xl3 → AW G p l e R s m args below meth c 4 (QM G (pV post) args s below n0 s0) 10 [(0, .ref (G.1 + al0)), (1, .int xl1), (2, .int xl2), (3, .int xl3)] [] h) {h : AH} {al0 : Nat} {xl1 : Int32} {xl2 : Int32} {xl3 : Int32}  (hw : wb_X9_pass_53 K10 h al0 xl1 xl2 xl3 post) : AW G p l e R s m args below meth c 4 (QM G (pV post) args s below n0 s0) 53 [(0, .ref (G.1 + al0)), (1, .int xl1), (2, .int xl2), (3, .int xl3)] [] h := by
  unfold wb_X9_pass_53 at hw
  refine r_aload_n C dX9_pass_53 0 rfl ?_
  refine r_dup C dX9_pass_54 rfl ?_
  refine r_getI C fl_RX9_34_8 hw.1 (fun _ _ _ => rfl) dX9_pass_55 ?_
  replace hw := hw.2
  refine r_iconst (v := 1) C dX9_pass_58 (by decide) ?_
  refine r_iadd C dX9_pass_59 ?_
  refine r_putI C fp_RX9_34_8 hw.1 rfl dX9_pass_60 ?_
  replace hw := hw.2
  refine r_toph fun hv1 ehv1 => ?_
  replace hw := hw hv1 ehv1
  refine r_sub [0, 1, 2, 3] rfl ?_
  exact tb_X9_pass_63 C hr hK10 hw
def wb_X9_pass_10 (K10 : AH → Nat → Int32 → Int32 → Int32 → Prop) (h : AH) (al0 : Nat) (xl1 : Int32) (xl2 : Int32) (xl3 : Int32)  (post : AH → Prop) : Prop := (xl1 ≤ xl3 → (post h)) ∧ (¬ xl1 ≤ xl3 → ((xl2 = 0 → (wb_X9_pass_63 K10 h al0 xl1 xl2 xl3 post)) ∧ (¬ xl2 = 0 → ((ob h al0 8) ∧ ((ob h al0 8) ∧ ((¬ ((((aI h al0 1) + (aI h al0 2)) / 4) - (((aI h al0 1) + (aI h al0 2)) / 4) / 24 * 24) = 12 → (wb_X9_pass_63 K10 h al0 xl1 xl2 xl3 post)) ∧ (((((aI h al0 1) + (aI h al0 2)) / 4) - (((aI h al0 1) + (aI h al0 2)) / 4) / 24 * 24) = 12 → ((ob h al0 8) ∧ ((¬ (aI h al0 4) = 0 → (wb_X9_pass_53 K10 h al0 xl1 xl2 xl3 post)) ∧ ((aI h al0 4) = 0 → ((ob h al0 8) ∧ ((ob h al0 8) ∧ (∀ hv1 : AH, hv1 = hI h al0 5 (aI h al0 2) → (wb_X9_pass_53 K10 hv1 al0 xl1 xl2 xl3 post))))))))))))))
set_option maxRecDepth 100000 in
theorem tb_X9_pass_10 {G : GG} {p : Program} {l : Launch} {e : Env} {R : Room} {s : State} {m : MethodId} {args : Array Value} {below : List Frame} {meth : Method} {c : Code} {n0 s0 : Nat} {post : AH → Prop} (C : Cx G p R s m args meth c 4 cX9_pass RX9 n0 s0 2 44) (hr : meth.sig.returnType = none) {K10 : AH → Nat → Int32 → Int32 → Int32 → Prop} (hK10 : ∀ (h : AH) (al0 : Nat) (xl1 : Int32) (xl2 : Int32) (xl3 : Int32), K10 h al0 xl1 xl2 xl3 → AW G p l e R s m args below meth c 4 (QM G (pV post) args s below n0 s0) 10 [(0, .ref (G.1 + al0)), (1, .int xl1), (2, .int xl2), (3, .int xl3)] [] h) {h : AH} {al0 : Nat} {xl1 : Int32} {xl2 : Int32} {xl3 : Int32}  (hw : wb_X9_pass_10 K10 h al0 xl1 xl2 xl3 post) : AW G p l e R s m args below meth c 4 (QM G (pV post) args s below n0 s0) 10 [(0, .ref (G.1 + al0)), (1, .int xl1), (2, .int xl2), (3, .int xl3)] [] h := by
  unfold wb_X9_pass_10 at hw
  refine r_iload_n C dX9_pass_10 3 rfl ?_
  refine r_iload_n C dX9_pass_11 1 rfl ?_
  refine r_icmp_ge C dX9_pass_12 79 (by decide) (fun hc => ?_) (fun hc => ?_)
  · replace hw := hw.1 hc
    exact r_vret C hr dX9_pass_79 hw
  · replace hw := hw.2 hc
    refine r_iload_n C dX9_pass_15 2 rfl ?_
    refine r_if_eq C dX9_pass_16 63 (by decide) (fun hc => ?_) (fun hc => ?_)
    · replace hw := hw.1 hc
      refine r_sub [0, 1, 2, 3] rfl ?_
      exact tb_X9_pass_63 C hr hK10 hw
    · replace hw := hw.2 hc
      refine r_aload_n C dX9_pass_19 0 rfl ?_
      refine r_getI C fl_RX9_24_8 hw.1 (fun _ _ _ => rfl) dX9_pass_20 ?_
      replace hw := hw.2
      refine r_aload_n C dX9_pass_23 0 rfl ?_
      refine r_getI C fl_RX9_28_8 hw.1 (fun _ _ _ => rfl) dX9_pass_24 ?_
      replace hw := hw.2
      refine r_iadd C dX9_pass_27 ?_
      refine r_iconst (v := 4) C dX9_pass_28 (by decide) ?_
      refine r_idiv C dX9_pass_29 (by decide) ?_
      refine r_bipush (v := 24) C dX9_pass_30 (by decide) ?_
      refine r_irem C dX9_pass_32 (by decide) ?_
      refine r_bipush (v := 12) C dX9_pass_33 (by decide) ?_
      refine r_icmp_ne C dX9_pass_35 63 (by decide) (fun hc => ?_) (fun hc => ?_)
      · replace hw := hw.1 hc
        refine r_sub [0, 1, 2, 3] rfl ?_
        exact tb_X9_pass_63 C hr hK10 hw
      · replace hw := hw.2 hc
        refine r_aload_n C dX9_pass_38 0 rfl ?_
        refine r_getI C fl_RX9_34_8 hw.1 (fun _ _ _ => rfl) dX9_pass_39 ?_
        replace hw := hw.2
        refine r_if_ne C dX9_pass_42 53 (by decide) (fun hc => ?_) (fun hc => ?_)
        · replace hw := hw.1 hc
          refine r_sub [0, 1, 2, 3] rfl ?_
          exact tb_X9_pass_53 C hr hK10 hw
        · replace hw := hw.2 hc
          refine r_aload_n C dX9_pass_45 0 rfl ?_
          refine r_aload_n C dX9_pass_46 0 rfl ?_
          refine r_getI C fl_RX9_28_8 hw.1 (fun _ _ _ => rfl) dX9_pass_47 ?_
          replace hw := hw.2
          refine r_putI C fp_RX9_37_8 hw.1 rfl dX9_pass_50 ?_
          replace hw := hw.2
          refine r_toph fun hv1 ehv1 => ?_
          replace hw := hw hv1 ehv1
          refine r_sub [0, 1, 2, 3] rfl ?_
          exact tb_X9_pass_53 C hr hK10 hw
def wl_X9_pass_10  (post : AH → Prop) : Nat → AH → Nat → Int32 → Int32 → Int32 → Prop
  | 0 => fun _ _ _ _ _ => False
  | n + 1 => fun h al0 xl1 xl2 xl3 => wb_X9_pass_10  (wl_X9_pass_10  post n) h al0 xl1 xl2 xl3 post
theorem tl_X9_pass_10 {G : GG} {p : Program} {l : Launch} {e : Env} {R : Room} {s : State} {m : MethodId} {args : Array Value} {below : List Frame} {meth : Method} {c : Code} {n0 s0 : Nat} {post : AH → Prop} (C : Cx G p R s m args meth c 4 cX9_pass RX9 n0 s0 2 44) (hr : meth.sig.returnType = none)   : ∀ (n : Nat) (h : AH) (al0 : Nat) (xl1 : Int32) (xl2 : Int32) (xl3 : Int32), wl_X9_pass_10  post n h al0 xl1 xl2 xl3 → AW G p l e R s m args below meth c 4 (QM G (pV post) args s below n0 s0) 10 [(0, .ref (G.1 + al0)), (1, .int xl1), (2, .int xl2), (3, .int xl3)] [] h := by
  intro n
  induction n with
  | zero => intro h al0 xl1 xl2 xl3 hw; exact hw.elim
  | succ n ih => intro h al0 xl1 xl2 xl3 hw; exact tb_X9_pass_10 C hr  ih hw
def wp_X9_pass (h : AH) (a0 : Nat) (x1 : Int32) (post : AH → Prop) : Prop := (ob h a0 8) ∧ (∃ rv1, aP h a0 0 = some rv1 ∧ ((ob h rv1 7) ∧ wp_X8_isSquareTaken h rv1  (fun hv2 iv3 => ∃ n, wl_X9_pass_10  post n hv2 a0 x1 iv3 0)))
set_option maxRecDepth 100000 in
theorem c_X9_pass (G : GG) (h : AH) (a0 : Nat) (x1 : Int32) (post : AH → Prop) (hw : wp_X9_pass h a0 x1 post) : MC G yX9_pass cX9_pass 4 none 2 44 h [.ref (G.1 + a0), .int x1] (pV post) := by
  refine MC.of (lv := [(0, .ref (G.1 + a0)), (1, .int x1)]) (by decide) (Nat.le_of_ble_eq_true rfl) rfl fun p l e R s m args below meth c C hr hnm => ?_
  unfold wp_X9_pass at hw
  refine r_aload_n C dX9_pass_0 0 rfl ?_
  have hob := hw.1
  obtain ⟨rv1, hp, hw⟩ := hw.2
  refine r_getP C fl_RX9_14_8 hob hp (fun _ _ _ => rfl) dX9_pass_1 ?_
  have hob := hw.1
  replace hw := hw.2
  refine r_callV C (As := []) (rest := []) (c_X8_isSquareTaken G h rv1  _ hw) yl_X8_isSquareTaken (gm5 (List.mem_of_getElem? (i := 46) rfl) rfl) (gm5 (List.mem_of_getElem? (i := 47) rfl) rfl) (ci := 7) rfl (by decide) (gm5 (List.mem_of_getElem? (i := 48) rfl) rfl) hob (by decide) rfl (Nat.le_of_ble_eq_true rfl) dX9_pass_4 rfl (kI fun hv2 iv3 hw => ?_)
  refine r_istore_n C dX9_pass_7 [(2, .int iv3), (0, .ref (G.1 + a0)), (1, .int x1)] (by decide) rfl ?_
  refine r_iconst (v := 0) C dX9_pass_8 (by decide) ?_
  refine r_istore_n C dX9_pass_9 [(3, .int 0), (2, .int iv3), (0, .ref (G.1 + a0)), (1, .int x1)] (by decide) rfl ?_
  refine r_sub [2, 3, 1, 0] rfl ?_
  obtain ⟨n, hw⟩ := hw
  exact tl_X9_pass_10 C hr  n _ _ _ _ _ hw
theorem dX9_step_0 : decode cX9_step 0 = .ok (.iload_n 1, 1) := by decide +kernel
theorem dX9_step_1 : decode cX9_step 1 = .ok (.iconst 5, 1) := by decide +kernel
theorem dX9_step_2 : decode cX9_step 2 = .ok (.if_icmp .ne 10, 3) := by decide +kernel
theorem dX9_step_5 : decode cX9_step 5 = .ok (.aload_n 0, 1) := by decide +kernel
theorem dX9_step_6 : decode cX9_step 6 = .ok (.iload_n 2, 1) := by decide +kernel
theorem dX9_step_7 : decode cX9_step 7 = .ok (.invokevirtual 60, 3) := by decide +kernel
theorem dX9_step_10 : decode cX9_step 10 = .ok (.iconst 1, 1) := by decide +kernel
theorem dX9_step_11 : decode cX9_step 11 = .ok (.ireturn, 1) := by decide +kernel
theorem dX9_step_12 : decode cX9_step 12 = .ok (.aload_n 0, 1) := by decide +kernel
theorem dX9_step_13 : decode cX9_step 13 = .ok (.getfield 14, 3) := by decide +kernel
theorem dX9_step_16 : decode cX9_step 16 = .ok (.iload_n 2, 1) := by decide +kernel
theorem dX9_step_17 : decode cX9_step 17 = .ok (.iload_n 1, 1) := by decide +kernel
theorem dX9_step_18 : decode cX9_step 18 = .ok (.aload_n 0, 1) := by decide +kernel
theorem dX9_step_19 : decode cX9_step 19 = .ok (.getfield 24, 3) := by decide +kernel
theorem dX9_step_22 : decode cX9_step 22 = .ok (.aload_n 0, 1) := by decide +kernel
theorem dX9_step_23 : decode cX9_step 23 = .ok (.getfield 28, 3) := by decide +kernel
theorem dX9_step_26 : decode cX9_step 26 = .ok (.iadd, 1) := by decide +kernel
theorem dX9_step_27 : decode cX9_step 27 = .ok (.iconst 4, 1) := by decide +kernel
theorem dX9_step_28 : decode cX9_step 28 = .ok (.idiv, 1) := by decide +kernel
theorem dX9_step_29 : decode cX9_step 29 = .ok (.bipush 24, 2) := by decide +kernel
theorem dX9_step_31 : decode cX9_step 31 = .ok (.irem, 1) := by decide +kernel
theorem dX9_step_32 : decode cX9_step 32 = .ok (.invokevirtual 64, 3) := by decide +kernel
theorem dX9_step_35 : decode cX9_step 35 = .ok (.istore_n 3, 1) := by decide +kernel
theorem dX9_step_36 : decode cX9_step 36 = .ok (.iload_n 3, 1) := by decide +kernel
theorem dX9_step_37 : decode cX9_step 37 = .ok (.ifCond .ge 11, 3) := by decide +kernel
theorem dX9_step_40 : decode cX9_step 40 = .ok (.aload_n 0, 1) := by decide +kernel
theorem dX9_step_41 : decode cX9_step 41 = .ok (.iload_n 3, 1) := by decide +kernel
theorem dX9_step_42 : decode cX9_step 42 = .ok (.ineg, 1) := by decide +kernel
theorem dX9_step_43 : decode cX9_step 43 = .ok (.putfield 31, 3) := by decide +kernel
theorem dX9_step_46 : decode cX9_step 46 = .ok (.iconst 0, 1) := by decide +kernel
theorem dX9_step_47 : decode cX9_step 47 = .ok (.ireturn, 1) := by decide +kernel
theorem dX9_step_48 : decode cX9_step 48 = .ok (.aload_n 0, 1) := by decide +kernel
theorem dX9_step_49 : decode cX9_step 49 = .ok (.iconst 1, 1) := by decide +kernel
theorem dX9_step_50 : decode cX9_step 50 = .ok (.invokevirtual 60, 3) := by decide +kernel
theorem dX9_step_53 : decode cX9_step 53 = .ok (.aload_n 0, 1) := by decide +kernel
theorem dX9_step_54 : decode cX9_step 54 = .ok (.getfield 14, 3) := by decide +kernel
theorem dX9_step_57 : decode cX9_step 57 = .ok (.iload_n 2, 1) := by decide +kernel
theorem dX9_step_58 : decode cX9_step 58 = .ok (.iload_n 3, 1) := by decide +kernel
theorem dX9_step_59 : decode cX9_step 59 = .ok (.invokevirtual 68, 3) := by decide +kernel
theorem dX9_step_62 : decode cX9_step 62 = .ok (.iconst 1, 1) := by decide +kernel
theorem dX9_step_63 : decode cX9_step 63 = .ok (.ireturn, 1) := by decide +kernel
def wp_X9_step (h : AH) (a0 : Nat) (x1 : Int32) (x2 : Int32) (post : AH → Int32 → Prop) : Prop := (¬ x1 = 5 → ((ob h a0 8) ∧ (∃ rv1, aP h a0 0 = some rv1 ∧ ((ob h a0 8) ∧ ((ob h a0 8) ∧ ((ob h rv1 7) ∧ wp_X8_attempt h rv1 x2 x1 ((((aI h a0 1) + (aI h a0 2)) / 4) - (((aI h a0 1) + (aI h a0 2)) / 4) / 24 * 24) (fun hv2 iv3 => (0 ≤ iv3 → ((ob hv2 a0 8) ∧ wp_X9_pass hv2 a0 1 (fun hv4  => (ob hv4 a0 8) ∧ (∃ rv5, aP hv4 a0 0 = some rv5 ∧ ((ob hv4 rv5 7) ∧ wp_X8_put hv4 rv5 x2 iv3 (fun hv6  => ((1 : Int32) = 0 ∨ (1 : Int32) = 1) ∧ post hv6 1)))))) ∧ (¬ 0 ≤ iv3 → ((ob hv2 a0 8) ∧ (∀ hv7 : AH, hv7 = hI hv2 a0 3 (-iv3) → (((0 : Int32) = 0 ∨ (0 : Int32) = 1) ∧ post hv7 0))))))))))) ∧ (x1 = 5 → ((ob h a0 8) ∧ wp_X9_pass h a0 x2 (fun hv8  => ((1 : Int32) = 0 ∨ (1 : Int32) = 1) ∧ post hv8 1)))
set_option maxRecDepth 100000 in
theorem c_X9_step (G : GG) (h : AH) (a0 : Nat) (x1 : Int32) (x2 : Int32) (post : AH → Int32 → Prop) (hw : wp_X9_step h a0 x1 x2 post) : MC G yX9_step cX9_step 4 (some .boolean) 4 103 h [.ref (G.1 + a0), .int x1, .int x2] (pI post) := by
  refine MC.of (lv := [(0, .ref (G.1 + a0)), (1, .int x1), (2, .int x2)]) (by decide) (Nat.le_of_ble_eq_true rfl) rfl fun p l e R s m args below meth c C hr hnm => ?_
  unfold wp_X9_step at hw
  refine r_iload_n C dX9_step_0 1 rfl ?_
  refine r_iconst (v := 5) C dX9_step_1 (by decide) ?_
  refine r_icmp_ne C dX9_step_2 12 (by decide) (fun hc => ?_) (fun hc => ?_)
  · replace hw := hw.1 hc
    refine r_aload_n C dX9_step_12 0 rfl ?_
    have hob := hw.1
    obtain ⟨rv1, hp, hw⟩ := hw.2
    refine r_getP C fl_RX9_14_8 hob hp (fun _ _ _ => rfl) dX9_step_13 ?_
    refine r_iload_n C dX9_step_16 2 rfl ?_
    refine r_iload_n C dX9_step_17 1 rfl ?_
    refine r_aload_n C dX9_step_18 0 rfl ?_
    refine r_getI C fl_RX9_24_8 hw.1 (fun _ _ _ => rfl) dX9_step_19 ?_
    replace hw := hw.2
    refine r_aload_n C dX9_step_22 0 rfl ?_
    refine r_getI C fl_RX9_28_8 hw.1 (fun _ _ _ => rfl) dX9_step_23 ?_
    replace hw := hw.2
    refine r_iadd C dX9_step_26 ?_
    refine r_iconst (v := 4) C dX9_step_27 (by decide) ?_
    refine r_idiv C dX9_step_28 (by decide) ?_
    refine r_bipush (v := 24) C dX9_step_29 (by decide) ?_
    refine r_irem C dX9_step_31 (by decide) ?_
    have hob := hw.1
    replace hw := hw.2
    refine r_callV C (As := [.int x2, .int x1, .int ((((aI h a0 1) + (aI h a0 2)) / 4) - (((aI h a0 1) + (aI h a0 2)) / 4) / 24 * 24)]) (rest := []) (c_X8_attempt G h rv1 x2 x1 ((((aI h a0 1) + (aI h a0 2)) / 4) - (((aI h a0 1) + (aI h a0 2)) / 4) / 24 * 24) _ hw) yl_X8_attempt (gm5 (List.mem_of_getElem? (i := 50) rfl) rfl) (gm4 (List.mem_of_getElem? (i := 164) rfl) rfl) (ci := 7) rfl (by decide) (gm4 (List.mem_of_getElem? (i := 165) rfl) rfl) hob (by decide) rfl (Nat.le_of_ble_eq_true rfl) dX9_step_32 rfl (kI fun hv2 iv3 hw => ?_)
    refine r_istore_n C dX9_step_35 [(3, .int iv3), (0, .ref (G.1 + a0)), (1, .int x1), (2, .int x2)] (by decide) rfl ?_
    refine r_iload_n C dX9_step_36 0 rfl ?_
    refine r_if_ge C dX9_step_37 48 (by decide) (fun hc => ?_) (fun hc => ?_)
    · replace hw := hw.1 hc
      refine r_aload_n C dX9_step_48 1 rfl ?_
      refine r_iconst (v := 1) C dX9_step_49 (by decide) ?_
      have hob := hw.1
      replace hw := hw.2
      refine r_callV C (As := [.int 1]) (rest := []) (c_X9_pass G hv2 a0 1 _ hw) yl_X9_pass (gm5 (List.mem_of_getElem? (i := 42) rfl) rfl) (gm5 (List.mem_of_getElem? (i := 44) rfl) rfl) (ci := 8) rfl (by decide) (gsel (List.mem_of_getElem? (i := 20) rfl)) hob (by decide) rfl (Nat.le_of_ble_eq_true rfl) dX9_step_50 rfl (kV fun hv4  hw => ?_)
      refine r_aload_n C dX9_step_53 1 rfl ?_
      have hob := hw.1
      obtain ⟨rv5, hp, hw⟩ := hw.2
      refine r_getP C fl_RX9_14_8 hob hp (fun _ _ _ => rfl) dX9_step_54 ?_
      refine r_iload_n C dX9_step_57 3 rfl ?_
      refine r_iload_n C dX9_step_58 0 rfl ?_
      have hob := hw.1
      replace hw := hw.2
      refine r_callV C (As := [.int x2, .int iv3]) (rest := []) (c_X8_put G hv4 rv5 x2 iv3 _ hw) yl_X8_put (gm5 (List.mem_of_getElem? (i := 51) rfl) rfl) (gm4 (List.mem_of_getElem? (i := 74) rfl) rfl) (ci := 7) rfl (by decide) (gm4 (List.mem_of_getElem? (i := 75) rfl) rfl) hob (by decide) rfl (Nat.le_of_ble_eq_true rfl) dX9_step_59 rfl (kV fun hv6  hw => ?_)
      refine r_iconst (v := 1) C dX9_step_62 (by decide) ?_
      exact r_zret C hr dX9_step_63 hw.1 hw.2
    · replace hw := hw.2 hc
      refine r_aload_n C dX9_step_40 1 rfl ?_
      refine r_iload_n C dX9_step_41 0 rfl ?_
      refine r_ineg C dX9_step_42 ?_
      refine r_putI C fp_RX9_31_8 hw.1 rfl dX9_step_43 ?_
      replace hw := hw.2
      refine r_toph fun hv7 ehv7 => ?_
      replace hw := hw hv7 ehv7
      refine r_iconst (v := 0) C dX9_step_46 (by decide) ?_
      exact r_zret C hr dX9_step_47 hw.1 hw.2
  · replace hw := hw.2 hc
    refine r_aload_n C dX9_step_5 0 rfl ?_
    refine r_iload_n C dX9_step_6 2 rfl ?_
    have hob := hw.1
    replace hw := hw.2
    refine r_callV C (As := [.int x2]) (rest := []) (c_X9_pass G h a0 x2 _ hw) yl_X9_pass (gm5 (List.mem_of_getElem? (i := 42) rfl) rfl) (gm5 (List.mem_of_getElem? (i := 44) rfl) rfl) (ci := 8) rfl (by decide) (gsel (List.mem_of_getElem? (i := 20) rfl)) hob (by decide) rfl (Nat.le_of_ble_eq_true rfl) dX9_step_7 rfl (kV fun hv8  hw => ?_)
    refine r_iconst (v := 1) C dX9_step_10 (by decide) ?_
    exact r_zret C hr dX9_step_11 hw.1 hw.2
theorem dX9_runFrom_0 : decode cX9_runFrom 0 = .ok (.iload_n 2, 1) := by decide +kernel
theorem dX9_runFrom_1 : decode cX9_runFrom 1 = .ok (.istore_n 3, 1) := by decide +kernel
theorem dX9_runFrom_2 : decode cX9_runFrom 2 = .ok (.iload_n 3, 1) := by decide +kernel
theorem dX9_runFrom_3 : decode cX9_runFrom 3 = .ok (.aload_n 1, 1) := by decide +kernel
theorem dX9_runFrom_4 : decode cX9_runFrom 4 = .ok (.getfield 44, 3) := by decide +kernel
theorem dX9_runFrom_7 : decode cX9_runFrom 7 = .ok (.if_icmp .ge 30, 3) := by decide +kernel
theorem dX9_runFrom_10 : decode cX9_runFrom 10 = .ok (.aload_n 0, 1) := by decide +kernel
theorem dX9_runFrom_11 : decode cX9_runFrom 11 = .ok (.aload_n 1, 1) := by decide +kernel
theorem dX9_runFrom_12 : decode cX9_runFrom 12 = .ok (.getfield 49, 3) := by decide +kernel
theorem dX9_runFrom_15 : decode cX9_runFrom 15 = .ok (.iload_n 3, 1) := by decide +kernel
theorem dX9_runFrom_16 : decode cX9_runFrom 16 = .ok (.iaload, 1) := by decide +kernel
theorem dX9_runFrom_17 : decode cX9_runFrom 17 = .ok (.aload_n 1, 1) := by decide +kernel
theorem dX9_runFrom_18 : decode cX9_runFrom 18 = .ok (.getfield 53, 3) := by decide +kernel
theorem dX9_runFrom_21 : decode cX9_runFrom 21 = .ok (.iload_n 3, 1) := by decide +kernel
theorem dX9_runFrom_22 : decode cX9_runFrom 22 = .ok (.iaload, 1) := by decide +kernel
theorem dX9_runFrom_23 : decode cX9_runFrom 23 = .ok (.invokevirtual 56, 3) := by decide +kernel
theorem dX9_runFrom_26 : decode cX9_runFrom 26 = .ok (.ifCond .ne 5, 3) := by decide +kernel
theorem dX9_runFrom_29 : decode cX9_runFrom 29 = .ok (.iload_n 3, 1) := by decide +kernel
theorem dX9_runFrom_30 : decode cX9_runFrom 30 = .ok (.ireturn, 1) := by decide +kernel
theorem dX9_runFrom_31 : decode cX9_runFrom 31 = .ok (.iinc 3 1, 3) := by decide +kernel
theorem dX9_runFrom_34 : decode cX9_runFrom 34 = .ok (.goto (-32), 3) := by decide +kernel
theorem dX9_runFrom_37 : decode cX9_runFrom 37 = .ok (.iconst (-1), 1) := by decide +kernel
theorem dX9_runFrom_38 : decode cX9_runFrom 38 = .ok (.ireturn, 1) := by decide +kernel
def wb_X9_runFrom_2 (K2 : AH → Nat → Nat → Int32 → Prop) (h : AH) (al0 : Nat) (al1 : Nat) (xl3 : Int32)  (post : AH → Int32 → Prop) : Prop := (ob h al1 5) ∧ (((aI h al1 2) ≤ xl3 → (post h (-1))) ∧ (¬ (aI h al1 2) ≤ xl3 → ((ob h al1 5) ∧ (∃ rv1, aP h al1 3 = some rv1 ∧ ((ob h rv1 13) ∧ ((vp_in xl3 (aL h rv1)) ∧ ((ob h al1 5) ∧ (∃ rv2, aP h al1 4 = some rv2 ∧ ((ob h rv2 13) ∧ ((vp_in xl3 (aL h rv2)) ∧ ((ob h al0 8) ∧ wp_X9_step h al0 (aI h rv1 xl3.toNatClampNeg) (aI h rv2 xl3.toNatClampNeg) (fun hv3 iv4 => (¬ iv4 = 0 → (∀ iv5 : Int32, iv5 = xl3 + 1 → (K2 hv3 al0 al1 iv5))) ∧ (iv4 = 0 → (post hv3 xl3))))))))))))))
set_option maxRecDepth 100000 in
theorem tb_X9_runFrom_2 {G : GG} {p : Program} {l : Launch} {e : Env} {R : Room} {s : State} {m : MethodId} {args : Array Value} {below : List Frame} {meth : Method} {c : Code} {n0 s0 : Nat} {post : AH → Int32 → Prop} (C : Cx G p R s m args meth c 4 cX9_runFrom RX9 n0 s0 5 126) (hr : meth.sig.returnType = (some .int)) {K2 : AH → Nat → Nat → Int32 → Prop} (hK2 : ∀ (h : AH) (al0 : Nat) (al1 : Nat) (xl3 : Int32), K2 h al0 al1 xl3 → AW G p l e R s m args below meth c 4 (QM G (pI post) args s below n0 s0) 2 [(0, .ref (G.1 + al0)), (1, .ref (G.1 + al1)), (3, .int xl3)] [] h) {h : AH} {al0 : Nat} {al1 : Nat} {xl3 : Int32}  (hw : wb_X9_runFrom_2 K2 h al0 al1 xl3 post) : AW G p l e R s m args below meth c 4 (QM G (pI post) args s below n0 s0) 2 [(0, .ref (G.1 + al0)), (1, .ref (G.1 + al1)), (3, .int xl3)] [] h := by
  unfold wb_X9_runFrom_2 at hw
  refine r_iload_n C dX9_runFrom_2 2 rfl ?_
  refine r_aload_n C dX9_runFrom_3 1 rfl ?_
  refine r_getI C fl_RX9_44_5 hw.1 (fun _ _ _ => rfl) dX9_runFrom_4 ?_
  replace hw := hw.2
  refine r_icmp_ge C dX9_runFrom_7 37 (by decide) (fun hc => ?_) (fun hc => ?_)
  · replace hw := hw.1 hc
    refine r_iconst (v := (-1)) C dX9_runFrom_37 (by decide) ?_
    exact r_iret C hr dX9_runFrom_38 hw
  · replace hw := hw.2 hc
    refine r_aload_n C dX9_runFrom_10 0 rfl ?_
    refine r_aload_n C dX9_runFrom_11 1 rfl ?_
    have hob := hw.1
    obtain ⟨rv1, hp, hw⟩ := hw.2
    refine r_getP C fl_RX9_49_5 hob hp (fun _ _ _ => rfl) dX9_runFrom_12 ?_
    refine r_iload_n C dX9_runFrom_15 2 rfl ?_
    refine r_iaload C hw.1 hw.2.1 dX9_runFrom_16 ?_
    replace hw := hw.2.2
    refine r_aload_n C dX9_runFrom_17 1 rfl ?_
    have hob := hw.1
    obtain ⟨rv2, hp, hw⟩ := hw.2
    refine r_getP C fl_RX9_53_5 hob hp (fun _ _ _ => rfl) dX9_runFrom_18 ?_
    refine r_iload_n C dX9_runFrom_21 2 rfl ?_
    refine r_iaload C hw.1 hw.2.1 dX9_runFrom_22 ?_
    replace hw := hw.2.2
    have hob := hw.1
    replace hw := hw.2
    refine r_callV C (As := [.int (aI h rv1 xl3.toNatClampNeg), .int (aI h rv2 xl3.toNatClampNeg)]) (rest := []) (c_X9_step G h al0 (aI h rv1 xl3.toNatClampNeg) (aI h rv2 xl3.toNatClampNeg) _ hw) yl_X9_step (gm5 (List.mem_of_getElem? (i := 38) rfl) rfl) (gm5 (List.mem_of_getElem? (i := 39) rfl) rfl) (ci := 8) rfl (by decide) (gm5 (List.mem_of_getElem? (i := 40) rfl) rfl) hob (by decide) rfl (Nat.le_of_ble_eq_true rfl) dX9_runFrom_23 rfl (kI fun hv3 iv4 hw => ?_)
    refine r_if_ne C dX9_runFrom_26 31 (by decide) (fun hc => ?_) (fun hc => ?_)
    · replace hw := hw.1 hc
      obtain ⟨iv5, eiv5⟩ : ∃ q : Int32, q = xl3 + 1 := ⟨_, rfl⟩
      replace hw := hw iv5 eiv5
      refine r_iinc C dX9_runFrom_31 2 rfl (by rw [eiv5]; rfl) [(3, .int iv5), (0, .ref (G.1 + al0)), (1, .ref (G.1 + al1))] (by decide) rfl ?_
      refine r_goto C dX9_runFrom_34 2 (by decide) ?_
      refine r_sub [1, 2, 0] rfl ?_
      exact hK2 _ _ _ _ hw
    · replace hw := hw.2 hc
      refine r_iload_n C dX9_runFrom_29 2 rfl ?_
      exact r_iret C hr dX9_runFrom_30 hw
def wl_X9_runFrom_2  (post : AH → Int32 → Prop) : Nat → AH → Nat → Nat → Int32 → Prop
  | 0 => fun _ _ _ _ => False
  | n + 1 => fun h al0 al1 xl3 => wb_X9_runFrom_2  (wl_X9_runFrom_2  post n) h al0 al1 xl3 post
theorem tl_X9_runFrom_2 {G : GG} {p : Program} {l : Launch} {e : Env} {R : Room} {s : State} {m : MethodId} {args : Array Value} {below : List Frame} {meth : Method} {c : Code} {n0 s0 : Nat} {post : AH → Int32 → Prop} (C : Cx G p R s m args meth c 4 cX9_runFrom RX9 n0 s0 5 126) (hr : meth.sig.returnType = (some .int))   : ∀ (n : Nat) (h : AH) (al0 : Nat) (al1 : Nat) (xl3 : Int32), wl_X9_runFrom_2  post n h al0 al1 xl3 → AW G p l e R s m args below meth c 4 (QM G (pI post) args s below n0 s0) 2 [(0, .ref (G.1 + al0)), (1, .ref (G.1 + al1)), (3, .int xl3)] [] h := by
  intro n
  induction n with
  | zero => intro h al0 al1 xl3 hw; exact hw.elim
  | succ n ih => intro h al0 al1 xl3 hw; exact tb_X9_runFrom_2 C hr  ih hw
def wp_X9_runFrom (h : AH) (a0 : Nat) (a1 : Nat) (x2 : Int32) (post : AH → Int32 → Prop) : Prop := ∃ n, wl_X9_runFrom_2  post n h a0 a1 x2
set_option maxRecDepth 100000 in
theorem c_X9_runFrom (G : GG) (h : AH) (a0 : Nat) (a1 : Nat) (x2 : Int32) (post : AH → Int32 → Prop) (hw : wp_X9_runFrom h a0 a1 x2 post) : MC G yX9_runFrom cX9_runFrom 4 (some .int) 5 126 h [.ref (G.1 + a0), .ref (G.1 + a1), .int x2] (pI post) := by
  refine MC.of (lv := [(0, .ref (G.1 + a0)), (1, .ref (G.1 + a1)), (2, .int x2)]) (by decide) (Nat.le_of_ble_eq_true rfl) rfl fun p l e R s m args below meth c C hr hnm => ?_
  unfold wp_X9_runFrom at hw
  refine r_iload_n C dX9_runFrom_0 2 rfl ?_
  refine r_istore_n C dX9_runFrom_1 [(3, .int x2), (0, .ref (G.1 + a0)), (1, .ref (G.1 + a1)), (2, .int x2)] (by decide) rfl ?_
  refine r_sub [1, 2, 0] rfl ?_
  obtain ⟨n, hw⟩ := hw
  exact tl_X9_runFrom_2 C hr  n _ _ _ _ hw
theorem dX11_putBytes_0 : decode cX11_putBytes 0 = .ok (.bipush 24, 2) := by decide +kernel
theorem dX11_putBytes_2 : decode cX11_putBytes 2 = .ok (.istore_n 2, 1) := by decide +kernel
theorem dX11_putBytes_3 : decode cX11_putBytes 3 = .ok (.iload_n 2, 1) := by decide +kernel
theorem dX11_putBytes_4 : decode cX11_putBytes 4 = .ok (.ifCond .lt 42, 3) := by decide +kernel
theorem dX11_putBytes_7 : decode cX11_putBytes 7 = .ok (.aload_n 0, 1) := by decide +kernel
theorem dX11_putBytes_8 : decode cX11_putBytes 8 = .ok (.getfield 71, 3) := by decide +kernel
theorem dX11_putBytes_11 : decode cX11_putBytes 11 = .ok (.sipush 940, 3) := by decide +kernel
theorem dX11_putBytes_14 : decode cX11_putBytes 14 = .ok (.if_icmp .ge 26, 3) := by decide +kernel
theorem dX11_putBytes_17 : decode cX11_putBytes 17 = .ok (.aload_n 0, 1) := by decide +kernel
theorem dX11_putBytes_18 : decode cX11_putBytes 18 = .ok (.getfield 9, 3) := by decide +kernel
theorem dX11_putBytes_21 : decode cX11_putBytes 21 = .ok (.aload_n 0, 1) := by decide +kernel
theorem dX11_putBytes_22 : decode cX11_putBytes 22 = .ok (.getfield 71, 3) := by decide +kernel
theorem dX11_putBytes_25 : decode cX11_putBytes 25 = .ok (.iload_n 1, 1) := by decide +kernel
theorem dX11_putBytes_26 : decode cX11_putBytes 26 = .ok (.iload_n 2, 1) := by decide +kernel
theorem dX11_putBytes_27 : decode cX11_putBytes 27 = .ok (.ishr, 1) := by decide +kernel
theorem dX11_putBytes_28 : decode cX11_putBytes 28 = .ok (.i2b, 1) := by decide +kernel
theorem dX11_putBytes_29 : decode cX11_putBytes 29 = .ok (.bastore, 1) := by decide +kernel
theorem dX11_putBytes_30 : decode cX11_putBytes 30 = .ok (.aload_n 0, 1) := by decide +kernel
theorem dX11_putBytes_31 : decode cX11_putBytes 31 = .ok (.dup, 1) := by decide +kernel
theorem dX11_putBytes_32 : decode cX11_putBytes 32 = .ok (.getfield 71, 3) := by decide +kernel
theorem dX11_putBytes_35 : decode cX11_putBytes 35 = .ok (.iconst 1, 1) := by decide +kernel
theorem dX11_putBytes_36 : decode cX11_putBytes 36 = .ok (.iadd, 1) := by decide +kernel
theorem dX11_putBytes_37 : decode cX11_putBytes 37 = .ok (.putfield 71, 3) := by decide +kernel
theorem dX11_putBytes_40 : decode cX11_putBytes 40 = .ok (.iinc 2 (-8), 3) := by decide +kernel
theorem dX11_putBytes_43 : decode cX11_putBytes 43 = .ok (.goto (-40), 3) := by decide +kernel
theorem dX11_putBytes_46 : decode cX11_putBytes 46 = .ok (.return_, 1) := by decide +kernel
def wb_X11_putBytes_40 (K3 : AH → Nat → Int32 → Int32 → Prop) (h : AH) (al0 : Nat) (xl1 : Int32) (xl2 : Int32)  (post : AH → Prop) : Prop := ∀ iv1 : Int32, iv1 = xl2 + (-8) → (K3 h al0 xl1 iv1)
set_option maxRecDepth 100000 in
theorem tb_X11_putBytes_40 {G : GG} {p : Program} {l : Launch} {e : Env} {R : Room} {s : State} {m : MethodId} {args : Array Value} {below : List Frame} {meth : Method} {c : Code} {n0 s0 : Nat} {post : AH → Prop} (C : Cx G p R s m args meth c 3 cX11_putBytes RX11 n0 s0 0 0) (hr : meth.sig.returnType = none) {K3 : AH → Nat → Int32 → Int32 → Prop} (hK3 : ∀ (h : AH) (al0 : Nat) (xl1 : Int32) (xl2 : Int32), K3 h al0 xl1 xl2 → AW G p l e R s m args below meth c 3 (QM G (pV post) args s below n0 s0) 3 [(0, .ref (G.1 + al0)), (1, .int xl1), (2, .int xl2)] [] h) {h : AH} {al0 : Nat} {xl1 : Int32} {xl2 : Int32}  (hw : wb_X11_putBytes_40 K3 h al0 xl1 xl2 post) : AW G p l e R s m args below meth c 3 (QM G (pV post) args s below n0 s0) 40 [(0, .ref (G.1 + al0)), (1, .int xl1), (2, .int xl2)] [] h := by
  unfold wb_X11_putBytes_40 at hw
  obtain ⟨iv1, eiv1⟩ : ∃ q : Int32, q = xl2 + (-8) := ⟨_, rfl⟩
  replace hw := hw iv1 eiv1
  refine r_iinc C dX11_putBytes_40 2 rfl (by rw [eiv1]; rfl) [(2, .int iv1), (0, .ref (G.1 + al0)), (1, .int xl1)] (by decide) rfl ?_
  refine r_goto C dX11_putBytes_43 3 (by decide) ?_
  refine r_sub [1, 2, 0] rfl ?_
  exact hK3 _ _ _ _ hw
def wb_X11_putBytes_3 (K3 : AH → Nat → Int32 → Int32 → Prop) (h : AH) (al0 : Nat) (xl1 : Int32) (xl2 : Int32)  (post : AH → Prop) : Prop := (xl2 < 0 → (post h)) ∧ (¬ xl2 < 0 → ((ob h al0 10) ∧ ((940 ≤ (aI h al0 1) → (wb_X11_putBytes_40 K3 h al0 xl1 xl2 post)) ∧ (¬ 940 ≤ (aI h al0 1) → ((ob h al0 10) ∧ (∃ rv1, aP h al0 0 = some rv1 ∧ ((ob h al0 10) ∧ ((ob h rv1 12) ∧ ((vp_in (aI h al0 1) (aL h rv1)) ∧ (∀ hv2 : AH, hv2 = hI h rv1 (aI h al0 1).toNatClampNeg (vp_nar .byte ((xl1 >>> (xl2 &&& 31)).toInt8.toInt32)) → ((ob hv2 al0 10) ∧ ((ob hv2 al0 10) ∧ (∀ hv3 : AH, hv3 = hI hv2 al0 1 ((aI hv2 al0 1) + (1 : Int32)) → (wb_X11_putBytes_40 K3 hv3 al0 xl1 xl2 post))))))))))))))
set_option maxRecDepth 100000 in
theorem tb_X11_putBytes_3 {G : GG} {p : Program} {l : Launch} {e : Env} {R : Room} {s : State} {m : MethodId} {args : Array Value} {below : List Frame} {meth : Method} {c : Code} {n0 s0 : Nat} {post : AH → Prop} (C : Cx G p R s m args meth c 3 cX11_putBytes RX11 n0 s0 0 0) (hr : meth.sig.returnType = none) {K3 : AH → Nat → Int32 → Int32 → Prop} (hK3 : ∀ (h : AH) (al0 : Nat) (xl1 : Int32) (xl2 : Int32), K3 h al0 xl1 xl2 → AW G p l e R s m args below meth c 3 (QM G (pV post) args s below n0 s0) 3 [(0, .ref (G.1 + al0)), (1, .int xl1), (2, .int xl2)] [] h) {h : AH} {al0 : Nat} {xl1 : Int32} {xl2 : Int32}  (hw : wb_X11_putBytes_3 K3 h al0 xl1 xl2 post) : AW G p l e R s m args below meth c 3 (QM G (pV post) args s below n0 s0) 3 [(0, .ref (G.1 + al0)), (1, .int xl1), (2, .int xl2)] [] h := by
  unfold wb_X11_putBytes_3 at hw
  refine r_iload_n C dX11_putBytes_3 2 rfl ?_
  refine r_if_lt C dX11_putBytes_4 46 (by decide) (fun hc => ?_) (fun hc => ?_)
  · replace hw := hw.1 hc
    exact r_vret C hr dX11_putBytes_46 hw
  · replace hw := hw.2 hc
    refine r_aload_n C dX11_putBytes_7 0 rfl ?_
    refine r_getI C fl_RX11_71_10 hw.1 (fun _ _ _ => rfl) dX11_putBytes_8 ?_
    replace hw := hw.2
    refine r_sipush (v := 940) C dX11_putBytes_11 (by decide) ?_
    refine r_icmp_ge C dX11_putBytes_14 40 (by decide) (fun hc => ?_) (fun hc => ?_)
    · replace hw := hw.1 hc
      refine r_sub [0, 1, 2] rfl ?_
      exact tb_X11_putBytes_40 C hr hK3 hw
    · replace hw := hw.2 hc
      refine r_aload_n C dX11_putBytes_17 0 rfl ?_
      have hob := hw.1
      obtain ⟨rv1, hp, hw⟩ := hw.2
      refine r_getP C fl_RX11_9_10 hob hp (fun _ _ _ => rfl) dX11_putBytes_18 ?_
      refine r_aload_n C dX11_putBytes_21 0 rfl ?_
      refine r_getI C fl_RX11_71_10 hw.1 (fun _ _ _ => rfl) dX11_putBytes_22 ?_
      replace hw := hw.2
      refine r_iload_n C dX11_putBytes_25 1 rfl ?_
      refine r_iload_n C dX11_putBytes_26 2 rfl ?_
      refine r_ishr C dX11_putBytes_27 ?_
      refine r_i2b C dX11_putBytes_28 ?_
      refine r_bastore C hw.1 hw.2.1 dX11_putBytes_29 ?_
      replace hw := hw.2.2
      refine r_toph fun hv2 ehv2 => ?_
      replace hw := hw hv2 ehv2
      refine r_aload_n C dX11_putBytes_30 0 rfl ?_
      refine r_dup C dX11_putBytes_31 rfl ?_
      refine r_getI C fl_RX11_71_10 hw.1 (fun _ _ _ => rfl) dX11_putBytes_32 ?_
      replace hw := hw.2
      refine r_iconst (v := 1) C dX11_putBytes_35 (by decide) ?_
      refine r_iadd C dX11_putBytes_36 ?_
      refine r_putI C fp_RX11_71_10 hw.1 rfl dX11_putBytes_37 ?_
      replace hw := hw.2
      refine r_toph fun hv3 ehv3 => ?_
      replace hw := hw hv3 ehv3
      refine r_sub [0, 1, 2] rfl ?_
      exact tb_X11_putBytes_40 C hr hK3 hw
def wl_X11_putBytes_3  (post : AH → Prop) : Nat → AH → Nat → Int32 → Int32 → Prop
  | 0 => fun _ _ _ _ => False
  | n + 1 => fun h al0 xl1 xl2 => wb_X11_putBytes_3  (wl_X11_putBytes_3  post n) h al0 xl1 xl2 post
theorem tl_X11_putBytes_3 {G : GG} {p : Program} {l : Launch} {e : Env} {R : Room} {s : State} {m : MethodId} {args : Array Value} {below : List Frame} {meth : Method} {c : Code} {n0 s0 : Nat} {post : AH → Prop} (C : Cx G p R s m args meth c 3 cX11_putBytes RX11 n0 s0 0 0) (hr : meth.sig.returnType = none)   : ∀ (n : Nat) (h : AH) (al0 : Nat) (xl1 : Int32) (xl2 : Int32), wl_X11_putBytes_3  post n h al0 xl1 xl2 → AW G p l e R s m args below meth c 3 (QM G (pV post) args s below n0 s0) 3 [(0, .ref (G.1 + al0)), (1, .int xl1), (2, .int xl2)] [] h := by
  intro n
  induction n with
  | zero => intro h al0 xl1 xl2 hw; exact hw.elim
  | succ n ih => intro h al0 xl1 xl2 hw; exact tb_X11_putBytes_3 C hr  ih hw
def wp_X11_putBytes (h : AH) (a0 : Nat) (x1 : Int32) (post : AH → Prop) : Prop := ∃ n, wl_X11_putBytes_3  post n h a0 x1 24
set_option maxRecDepth 100000 in
theorem c_X11_putBytes (G : GG) (h : AH) (a0 : Nat) (x1 : Int32) (post : AH → Prop) (hw : wp_X11_putBytes h a0 x1 post) : MC G yX11_putBytes cX11_putBytes 3 none 0 0 h [.ref (G.1 + a0), .int x1] (pV post) := by
  refine MC.of (lv := [(0, .ref (G.1 + a0)), (1, .int x1)]) (by decide) (Nat.le_of_ble_eq_true rfl) rfl fun p l e R s m args below meth c C hr hnm => ?_
  unfold wp_X11_putBytes at hw
  refine r_bipush (v := 24) C dX11_putBytes_0 (by decide) ?_
  refine r_istore_n C dX11_putBytes_2 [(2, .int 24), (0, .ref (G.1 + a0)), (1, .int x1)] (by decide) rfl ?_
  refine r_sub [1, 2, 0] rfl ?_
  obtain ⟨n, hw⟩ := hw
  exact tl_X11_putBytes_3 C hr  n _ _ _ _ hw
theorem dX11_feed_0 : decode cX11_feed 0 = .ok (.aload_n 0, 1) := by decide +kernel
theorem dX11_feed_1 : decode cX11_feed 1 = .ok (.getfield 71, 3) := by decide +kernel
theorem dX11_feed_4 : decode cX11_feed 4 = .ok (.bipush 20, 2) := by decide +kernel
theorem dX11_feed_6 : decode cX11_feed 6 = .ok (.iadd, 1) := by decide +kernel
theorem dX11_feed_7 : decode cX11_feed 7 = .ok (.sipush 940, 3) := by decide +kernel
theorem dX11_feed_10 : decode cX11_feed 10 = .ok (.if_icmp .le 5, 3) := by decide +kernel
theorem dX11_feed_13 : decode cX11_feed 13 = .ok (.iconst (-1), 1) := by decide +kernel
theorem dX11_feed_14 : decode cX11_feed 14 = .ok (.ireturn, 1) := by decide +kernel
theorem dX11_feed_15 : decode cX11_feed 15 = .ok (.aload_n 0, 1) := by decide +kernel
theorem dX11_feed_16 : decode cX11_feed 16 = .ok (.iload_n 1, 1) := by decide +kernel
theorem dX11_feed_17 : decode cX11_feed 17 = .ok (.invokevirtual 75, 3) := by decide +kernel
theorem dX11_feed_20 : decode cX11_feed 20 = .ok (.aload_n 0, 1) := by decide +kernel
theorem dX11_feed_21 : decode cX11_feed 21 = .ok (.iload_n 2, 1) := by decide +kernel
theorem dX11_feed_22 : decode cX11_feed 22 = .ok (.invokevirtual 75, 3) := by decide +kernel
theorem dX11_feed_25 : decode cX11_feed 25 = .ok (.aload_n 0, 1) := by decide +kernel
theorem dX11_feed_26 : decode cX11_feed 26 = .ok (.iload_n 3, 1) := by decide +kernel
theorem dX11_feed_27 : decode cX11_feed 27 = .ok (.invokevirtual 75, 3) := by decide +kernel
theorem dX11_feed_30 : decode cX11_feed 30 = .ok (.aload_n 0, 1) := by decide +kernel
theorem dX11_feed_31 : decode cX11_feed 31 = .ok (.iload 4, 2) := by decide +kernel
theorem dX11_feed_33 : decode cX11_feed 33 = .ok (.invokevirtual 75, 3) := by decide +kernel
theorem dX11_feed_36 : decode cX11_feed 36 = .ok (.aload_n 0, 1) := by decide +kernel
theorem dX11_feed_37 : decode cX11_feed 37 = .ok (.iload 5, 2) := by decide +kernel
theorem dX11_feed_39 : decode cX11_feed 39 = .ok (.invokevirtual 75, 3) := by decide +kernel
theorem dX11_feed_42 : decode cX11_feed 42 = .ok (.aload_n 0, 1) := by decide +kernel
theorem dX11_feed_43 : decode cX11_feed 43 = .ok (.getfield 71, 3) := by decide +kernel
theorem dX11_feed_46 : decode cX11_feed 46 = .ok (.ireturn, 1) := by decide +kernel
def wp_X11_feed (h : AH) (a0 : Nat) (x1 : Int32) (x2 : Int32) (x3 : Int32) (x4 : Int32) (x5 : Int32) (post : AH → Int32 → Prop) : Prop := (ob h a0 10) ∧ ((((aI h a0 1) + (20 : Int32)) ≤ 940 → ((ob h a0 10) ∧ wp_X11_putBytes h a0 x1 (fun hv1  => (ob hv1 a0 10) ∧ wp_X11_putBytes hv1 a0 x2 (fun hv2  => (ob hv2 a0 10) ∧ wp_X11_putBytes hv2 a0 x3 (fun hv3  => (ob hv3 a0 10) ∧ wp_X11_putBytes hv3 a0 x4 (fun hv4  => (ob hv4 a0 10) ∧ wp_X11_putBytes hv4 a0 x5 (fun hv5  => (ob hv5 a0 10) ∧ (post hv5 (aI hv5 a0 1))))))))) ∧ (¬ ((aI h a0 1) + (20 : Int32)) ≤ 940 → (post h (-1))))
set_option maxRecDepth 100000 in
theorem c_X11_feed (G : GG) (h : AH) (a0 : Nat) (x1 : Int32) (x2 : Int32) (x3 : Int32) (x4 : Int32) (x5 : Int32) (post : AH → Int32 → Prop) (hw : wp_X11_feed h a0 x1 x2 x3 x4 x5 post) : MC G yX11_feed cX11_feed 6 (some .int) 1 22 h [.ref (G.1 + a0), .int x1, .int x2, .int x3, .int x4, .int x5] (pI post) := by
  refine MC.of (lv := [(0, .ref (G.1 + a0)), (1, .int x1), (2, .int x2), (3, .int x3), (4, .int x4), (5, .int x5)]) (by decide) (Nat.le_of_ble_eq_true rfl) rfl fun p l e R s m args below meth c C hr hnm => ?_
  unfold wp_X11_feed at hw
  refine r_aload_n C dX11_feed_0 0 rfl ?_
  refine r_getI C fl_RX11_71_10 hw.1 (fun _ _ _ => rfl) dX11_feed_1 ?_
  replace hw := hw.2
  refine r_bipush (v := 20) C dX11_feed_4 (by decide) ?_
  refine r_iadd C dX11_feed_6 ?_
  refine r_sipush (v := 940) C dX11_feed_7 (by decide) ?_
  refine r_icmp_le C dX11_feed_10 15 (by decide) (fun hc => ?_) (fun hc => ?_)
  · replace hw := hw.1 hc
    refine r_aload_n C dX11_feed_15 0 rfl ?_
    refine r_iload_n C dX11_feed_16 1 rfl ?_
    have hob := hw.1
    replace hw := hw.2
    refine r_callV C (As := [.int x1]) (rest := []) (c_X11_putBytes G h a0 x1 _ hw) yl_X11_putBytes (gm3 (List.mem_of_getElem? (i := 95) rfl) rfl) (gm3 (List.mem_of_getElem? (i := 97) rfl) rfl) (ci := 10) rfl (by decide) (gsel (List.mem_of_getElem? (i := 0) rfl)) hob (by decide) rfl (Nat.le_of_ble_eq_true rfl) dX11_feed_17 rfl (kV fun hv1  hw => ?_)
    refine r_aload_n C dX11_feed_20 0 rfl ?_
    refine r_iload_n C dX11_feed_21 2 rfl ?_
    have hob := hw.1
    replace hw := hw.2
    refine r_callV C (As := [.int x2]) (rest := []) (c_X11_putBytes G hv1 a0 x2 _ hw) yl_X11_putBytes (gm3 (List.mem_of_getElem? (i := 95) rfl) rfl) (gm3 (List.mem_of_getElem? (i := 97) rfl) rfl) (ci := 10) rfl (by decide) (gsel (List.mem_of_getElem? (i := 0) rfl)) hob (by decide) rfl (Nat.le_of_ble_eq_true rfl) dX11_feed_22 rfl (kV fun hv2  hw => ?_)
    refine r_aload_n C dX11_feed_25 0 rfl ?_
    refine r_iload_n C dX11_feed_26 3 rfl ?_
    have hob := hw.1
    replace hw := hw.2
    refine r_callV C (As := [.int x3]) (rest := []) (c_X11_putBytes G hv2 a0 x3 _ hw) yl_X11_putBytes (gm3 (List.mem_of_getElem? (i := 95) rfl) rfl) (gm3 (List.mem_of_getElem? (i := 97) rfl) rfl) (ci := 10) rfl (by decide) (gsel (List.mem_of_getElem? (i := 0) rfl)) hob (by decide) rfl (Nat.le_of_ble_eq_true rfl) dX11_feed_27 rfl (kV fun hv3  hw => ?_)
    refine r_aload_n C dX11_feed_30 0 rfl ?_
    refine r_iload C dX11_feed_31 4 rfl ?_
    have hob := hw.1
    replace hw := hw.2
    refine r_callV C (As := [.int x4]) (rest := []) (c_X11_putBytes G hv3 a0 x4 _ hw) yl_X11_putBytes (gm3 (List.mem_of_getElem? (i := 95) rfl) rfl) (gm3 (List.mem_of_getElem? (i := 97) rfl) rfl) (ci := 10) rfl (by decide) (gsel (List.mem_of_getElem? (i := 0) rfl)) hob (by decide) rfl (Nat.le_of_ble_eq_true rfl) dX11_feed_33 rfl (kV fun hv4  hw => ?_)
    refine r_aload_n C dX11_feed_36 0 rfl ?_
    refine r_iload C dX11_feed_37 5 rfl ?_
    have hob := hw.1
    replace hw := hw.2
    refine r_callV C (As := [.int x5]) (rest := []) (c_X11_putBytes G hv4 a0 x5 _ hw) yl_X11_putBytes (gm3 (List.mem_of_getElem? (i := 95) rfl) rfl) (gm3 (List.mem_of_getElem? (i := 97) rfl) rfl) (ci := 10) rfl (by decide) (gsel (List.mem_of_getElem? (i := 0) rfl)) hob (by decide) rfl (Nat.le_of_ble_eq_true rfl) dX11_feed_39 rfl (kV fun hv5  hw => ?_)
    refine r_aload_n C dX11_feed_42 0 rfl ?_
    refine r_getI C fl_RX11_71_10 hw.1 (fun _ _ _ => rfl) dX11_feed_43 ?_
    replace hw := hw.2
    exact r_iret C hr dX11_feed_46 hw
  · replace hw := hw.2 hc
    refine r_iconst (v := (-1)) C dX11_feed_13 (by decide) ?_
    exact r_iret C hr dX11_feed_14 hw
theorem dX11_end_0 : decode cX11_end 0 = .ok (.iload_n 1, 1) := by decide +kernel
theorem dX11_end_1 : decode cX11_end 1 = .ok (.ifCond .lt 11, 3) := by decide +kernel
theorem dX11_end_4 : decode cX11_end 4 = .ok (.iload_n 1, 1) := by decide +kernel
theorem dX11_end_5 : decode cX11_end 5 = .ok (.aload_n 0, 1) := by decide +kernel
theorem dX11_end_6 : decode cX11_end 6 = .ok (.getfield 71, 3) := by decide +kernel
theorem dX11_end_9 : decode cX11_end 9 = .ok (.if_icmp .le 5, 3) := by decide +kernel
theorem dX11_end_12 : decode cX11_end 12 = .ok (.iconst 0, 1) := by decide +kernel
theorem dX11_end_13 : decode cX11_end 13 = .ok (.ireturn, 1) := by decide +kernel
theorem dX11_end_14 : decode cX11_end 14 = .ok (.aload_n 0, 1) := by decide +kernel
theorem dX11_end_15 : decode cX11_end 15 = .ok (.iload_n 1, 1) := by decide +kernel
theorem dX11_end_16 : decode cX11_end 16 = .ok (.putfield 71, 3) := by decide +kernel
theorem dX11_end_19 : decode cX11_end 19 = .ok (.iconst 1, 1) := by decide +kernel
theorem dX11_end_20 : decode cX11_end 20 = .ok (.ireturn, 1) := by decide +kernel
def wp_X11_end (h : AH) (a0 : Nat) (x1 : Int32) (post : AH → Int32 → Prop) : Prop := (x1 < 0 → (((0 : Int32) = 0 ∨ (0 : Int32) = 1) ∧ post h 0)) ∧ (¬ x1 < 0 → ((ob h a0 10) ∧ ((x1 ≤ (aI h a0 1) → ((ob h a0 10) ∧ (∀ hv1 : AH, hv1 = hI h a0 1 x1 → (((1 : Int32) = 0 ∨ (1 : Int32) = 1) ∧ post hv1 1)))) ∧ (¬ x1 ≤ (aI h a0 1) → (((0 : Int32) = 0 ∨ (0 : Int32) = 1) ∧ post h 0)))))
set_option maxRecDepth 100000 in
theorem c_X11_end (G : GG) (h : AH) (a0 : Nat) (x1 : Int32) (post : AH → Int32 → Prop) (hw : wp_X11_end h a0 x1 post) : MC G yX11_end cX11_end 2 (some .boolean) 0 0 h [.ref (G.1 + a0), .int x1] (pI post) := by
  refine MC.of (lv := [(0, .ref (G.1 + a0)), (1, .int x1)]) (by decide) (Nat.le_of_ble_eq_true rfl) rfl fun p l e R s m args below meth c C hr hnm => ?_
  unfold wp_X11_end at hw
  refine r_iload_n C dX11_end_0 1 rfl ?_
  refine r_if_lt C dX11_end_1 12 (by decide) (fun hc => ?_) (fun hc => ?_)
  · replace hw := hw.1 hc
    refine r_iconst (v := 0) C dX11_end_12 (by decide) ?_
    exact r_zret C hr dX11_end_13 hw.1 hw.2
  · replace hw := hw.2 hc
    refine r_iload_n C dX11_end_4 1 rfl ?_
    refine r_aload_n C dX11_end_5 0 rfl ?_
    refine r_getI C fl_RX11_71_10 hw.1 (fun _ _ _ => rfl) dX11_end_6 ?_
    replace hw := hw.2
    refine r_icmp_le C dX11_end_9 14 (by decide) (fun hc => ?_) (fun hc => ?_)
    · replace hw := hw.1 hc
      refine r_aload_n C dX11_end_14 0 rfl ?_
      refine r_iload_n C dX11_end_15 1 rfl ?_
      refine r_putI C fp_RX11_71_10 hw.1 rfl dX11_end_16 ?_
      replace hw := hw.2
      refine r_toph fun hv1 ehv1 => ?_
      replace hw := hw hv1 ehv1
      refine r_iconst (v := 1) C dX11_end_19 (by decide) ?_
      exact r_zret C hr dX11_end_20 hw.1 hw.2
    · replace hw := hw.2 hc
      refine r_iconst (v := 0) C dX11_end_12 (by decide) ?_
      exact r_zret C hr dX11_end_13 hw.1 hw.2
theorem dX11_takeTape_0 : decode cX11_takeTape 0 = .ok (.aload_n 0, 1) := by decide +kernel
theorem dX11_takeTape_1 : decode cX11_takeTape 1 = .ok (.getfield 71, 3) := by decide +kernel
theorem dX11_takeTape_4 : decode cX11_takeTape 4 = .ok (.istore_n 1, 1) := by decide +kernel
theorem dX11_takeTape_5 : decode cX11_takeTape 5 = .ok (.aload_n 0, 1) := by decide +kernel
theorem dX11_takeTape_6 : decode cX11_takeTape 6 = .ok (.iconst 0, 1) := by decide +kernel
theorem dX11_takeTape_7 : decode cX11_takeTape 7 = .ok (.putfield 71, 3) := by decide +kernel
theorem dX11_takeTape_10 : decode cX11_takeTape 10 = .ok (.iload_n 1, 1) := by decide +kernel
theorem dX11_takeTape_11 : decode cX11_takeTape 11 = .ok (.ireturn, 1) := by decide +kernel
def wp_X11_takeTape (h : AH) (a0 : Nat) (post : AH → Int32 → Prop) : Prop := (ob h a0 10) ∧ (∀ iv1 : Int32, iv1 = aI h a0 1 → ((ob h a0 10) ∧ (∀ hv2 : AH, hv2 = hI h a0 1 0 → (post hv2 iv1))))
set_option maxRecDepth 100000 in
theorem c_X11_takeTape (G : GG) (h : AH) (a0 : Nat) (post : AH → Int32 → Prop) (hw : wp_X11_takeTape h a0 post) : MC G yX11_takeTape cX11_takeTape 2 (some .int) 0 0 h [.ref (G.1 + a0)] (pI post) := by
  refine MC.of (lv := [(0, .ref (G.1 + a0))]) (by decide) (Nat.le_of_ble_eq_true rfl) rfl fun p l e R s m args below meth c C hr hnm => ?_
  unfold wp_X11_takeTape at hw
  refine r_aload_n C dX11_takeTape_0 0 rfl ?_
  refine r_getI C fl_RX11_71_10 hw.1 (fun _ _ _ => rfl) dX11_takeTape_1 ?_
  replace hw := hw.2
  refine r_topi fun iv1 eiv1 => ?_
  replace hw := hw iv1 eiv1
  refine r_istore_n C dX11_takeTape_4 [(1, .int iv1), (0, .ref (G.1 + a0))] (by decide) rfl ?_
  refine r_aload_n C dX11_takeTape_5 1 rfl ?_
  refine r_iconst (v := 0) C dX11_takeTape_6 (by decide) ?_
  refine r_putI C fp_RX11_71_10 hw.1 rfl dX11_takeTape_7 ?_
  replace hw := hw.2
  refine r_toph fun hv2 ehv2 => ?_
  replace hw := hw hv2 ehv2
  refine r_iload_n C dX11_takeTape_10 0 rfl ?_
  exact r_iret C hr dX11_takeTape_11 hw
theorem dX11_lagoon_0 : decode cX11_lagoon 0 = .ok (.aload_n 0, 1) := by decide +kernel
theorem dX11_lagoon_1 : decode cX11_lagoon 1 = .ok (.getfield 16, 3) := by decide +kernel
theorem dX11_lagoon_4 : decode cX11_lagoon 4 = .ok (.aload_n 0, 1) := by decide +kernel
theorem dX11_lagoon_5 : decode cX11_lagoon 5 = .ok (.getfield 9, 3) := by decide +kernel
theorem dX11_lagoon_8 : decode cX11_lagoon 8 = .ok (.aload_n 0, 1) := by decide +kernel
theorem dX11_lagoon_9 : decode cX11_lagoon 9 = .ok (.invokevirtual 79, 3) := by decide +kernel
theorem dX11_lagoon_12 : decode cX11_lagoon 12 = .ok (.invokevirtual 83, 3) := by decide +kernel
theorem dX11_lagoon_15 : decode cX11_lagoon 15 = .ok (.istore_n 1, 1) := by decide +kernel
theorem dX11_lagoon_16 : decode cX11_lagoon 16 = .ok (.aload_n 0, 1) := by decide +kernel
theorem dX11_lagoon_17 : decode cX11_lagoon 17 = .ok (.aload_n 0, 1) := by decide +kernel
theorem dX11_lagoon_18 : decode cX11_lagoon 18 = .ok (.getfield 16, 3) := by decide +kernel
theorem dX11_lagoon_21 : decode cX11_lagoon 21 = .ok (.getfield 87, 3) := by decide +kernel
theorem dX11_lagoon_24 : decode cX11_lagoon 24 = .ok (.putfield 90, 3) := by decide +kernel
theorem dX11_lagoon_27 : decode cX11_lagoon 27 = .ok (.aload_n 0, 1) := by decide +kernel
theorem dX11_lagoon_28 : decode cX11_lagoon 28 = .ok (.getfield 90, 3) := by decide +kernel
theorem dX11_lagoon_31 : decode cX11_lagoon 31 = .ok (.ifCond .eq 13, 3) := by decide +kernel
theorem dX11_lagoon_34 : decode cX11_lagoon 34 = .ok (.iconst (-1), 1) := by decide +kernel
theorem dX11_lagoon_35 : decode cX11_lagoon 35 = .ok (.aload_n 0, 1) := by decide +kernel
theorem dX11_lagoon_36 : decode cX11_lagoon 36 = .ok (.getfield 16, 3) := by decide +kernel
theorem dX11_lagoon_39 : decode cX11_lagoon 39 = .ok (.getfield 93, 3) := by decide +kernel
theorem dX11_lagoon_42 : decode cX11_lagoon 42 = .ok (.isub, 1) := by decide +kernel
theorem dX11_lagoon_43 : decode cX11_lagoon 43 = .ok (.ireturn, 1) := by decide +kernel
theorem dX11_lagoon_44 : decode cX11_lagoon 44 = .ok (.aload_n 0, 1) := by decide +kernel
theorem dX11_lagoon_45 : decode cX11_lagoon 45 = .ok (.getfield 16, 3) := by decide +kernel
theorem dX11_lagoon_48 : decode cX11_lagoon 48 = .ok (.aload_n 0, 1) := by decide +kernel
theorem dX11_lagoon_49 : decode cX11_lagoon 49 = .ok (.getfield 30, 3) := by decide +kernel
theorem dX11_lagoon_52 : decode cX11_lagoon 52 = .ok (.aload_n 0, 1) := by decide +kernel
theorem dX11_lagoon_53 : decode cX11_lagoon 53 = .ok (.getfield 16, 3) := by decide +kernel
theorem dX11_lagoon_56 : decode cX11_lagoon 56 = .ok (.getfield 96, 3) := by decide +kernel
theorem dX11_lagoon_59 : decode cX11_lagoon 59 = .ok (.invokevirtual 99, 3) := by decide +kernel
theorem dX11_lagoon_62 : decode cX11_lagoon 62 = .ok (.putfield 96, 3) := by decide +kernel
theorem dX11_lagoon_65 : decode cX11_lagoon 65 = .ok (.iload_n 1, 1) := by decide +kernel
theorem dX11_lagoon_66 : decode cX11_lagoon 66 = .ok (.ireturn, 1) := by decide +kernel
def wp_X11_lagoon (h : AH) (a0 : Nat) (post : AH → Int32 → Prop) : Prop := (ob h a0 10) ∧ (∃ rv1, aP h a0 3 = some rv1 ∧ ((ob h a0 10) ∧ (∃ rv2, aP h a0 0 = some rv2 ∧ ((ob h a0 10) ∧ wp_X11_takeTape h a0  (fun hv3 iv4 => (ob hv3 rv1 2) ∧ wp_X2_readLines hv3 rv1 rv2 iv4 (fun hv5 iv6 => (ob hv5 a0 10) ∧ (∃ rv7, aP hv5 a0 3 = some rv7 ∧ ((ob hv5 rv7 2) ∧ ((ob hv5 a0 10) ∧ (∀ hv8 : AH, hv8 = hI hv5 a0 2 (aI hv5 rv7 10) → ((ob hv8 a0 10) ∧ (((aI hv8 a0 2) = 0 → ((ob hv8 a0 10) ∧ (∃ rv9, aP hv8 a0 3 = some rv9 ∧ ((ob hv8 a0 10) ∧ (∃ rv10, aP hv8 a0 5 = some rv10 ∧ ((ob hv8 a0 10) ∧ (∃ rv11, aP hv8 a0 3 = some rv11 ∧ ((ob hv8 rv11 2) ∧ (∃ rv12, aP hv8 rv11 12 = some rv12 ∧ ((ob hv8 rv10 5) ∧ wp_X5_begin hv8 rv10 rv12 (fun hv13 rv14 => (ob hv13 rv9 2) ∧ (∀ hv15 : AH, hv15 = hP hv13 rv9 12 rv14 → (post hv15 iv6))))))))))))) ∧ (¬ (aI hv8 a0 2) = 0 → ((ob hv8 a0 10) ∧ (∃ rv16, aP hv8 a0 3 = some rv16 ∧ ((ob hv8 rv16 2) ∧ (post hv8 ((-1 : Int32) - (aI hv8 rv16 11)))))))))))))))))))
set_option maxRecDepth 100000 in
theorem c_X11_lagoon (G : GG) (h : AH) (a0 : Nat) (post : AH → Int32 → Prop) (hw : wp_X11_lagoon h a0 post) : MC G yX11_lagoon cX11_lagoon 2 (some .int) 6 134 h [.ref (G.1 + a0)] (pI post) := by
  refine MC.of (lv := [(0, .ref (G.1 + a0))]) (by decide) (Nat.le_of_ble_eq_true rfl) rfl fun p l e R s m args below meth c C hr hnm => ?_
  unfold wp_X11_lagoon at hw
  refine r_aload_n C dX11_lagoon_0 0 rfl ?_
  have hob := hw.1
  obtain ⟨rv1, hp, hw⟩ := hw.2
  refine r_getP C fl_RX11_16_10 hob hp (fun _ _ _ => rfl) dX11_lagoon_1 ?_
  refine r_aload_n C dX11_lagoon_4 0 rfl ?_
  have hob := hw.1
  obtain ⟨rv2, hp, hw⟩ := hw.2
  refine r_getP C fl_RX11_9_10 hob hp (fun _ _ _ => rfl) dX11_lagoon_5 ?_
  refine r_aload_n C dX11_lagoon_8 0 rfl ?_
  have hob := hw.1
  replace hw := hw.2
  refine r_callV C (As := []) (rest := [.ref (G.1 + rv2), .ref (G.1 + rv1)]) (c_X11_takeTape G h a0  _ hw) yl_X11_takeTape (gm3 (List.mem_of_getElem? (i := 107) rfl) rfl) (gm3 (List.mem_of_getElem? (i := 109) rfl) rfl) (ci := 10) rfl (by decide) (gsel (List.mem_of_getElem? (i := 1) rfl)) hob (by decide) rfl (Nat.le_of_ble_eq_true rfl) dX11_lagoon_9 rfl (kI fun hv3 iv4 hw => ?_)
  have hob := hw.1
  replace hw := hw.2
  refine r_callV C (As := [.ref (G.1 + rv2), .int iv4]) (rest := []) (c_X2_readLines G hv3 rv1 rv2 iv4 _ hw) yl_X2_readLines (gm3 (List.mem_of_getElem? (i := 111) rfl) rfl) (gm3 (List.mem_of_getElem? (i := 112) rfl) rfl) (ci := 2) rfl (by decide) (gm3 (List.mem_of_getElem? (i := 113) rfl) rfl) hob (by decide) rfl (Nat.le_of_ble_eq_true rfl) dX11_lagoon_12 rfl (kI fun hv5 iv6 hw => ?_)
  refine r_istore_n C dX11_lagoon_15 [(1, .int iv6), (0, .ref (G.1 + a0))] (by decide) rfl ?_
  refine r_aload_n C dX11_lagoon_16 1 rfl ?_
  refine r_aload_n C dX11_lagoon_17 1 rfl ?_
  have hob := hw.1
  obtain ⟨rv7, hp, hw⟩ := hw.2
  refine r_getP C fl_RX11_16_10 hob hp (fun _ _ _ => rfl) dX11_lagoon_18 ?_
  refine r_getI C fl_RX11_87_2 hw.1 (fun _ _ _ => rfl) dX11_lagoon_21 ?_
  replace hw := hw.2
  refine r_putI C fp_RX11_90_10 hw.1 rfl dX11_lagoon_24 ?_
  replace hw := hw.2
  refine r_toph fun hv8 ehv8 => ?_
  replace hw := hw hv8 ehv8
  refine r_aload_n C dX11_lagoon_27 1 rfl ?_
  refine r_getI C fl_RX11_90_10 hw.1 (fun _ _ _ => rfl) dX11_lagoon_28 ?_
  replace hw := hw.2
  refine r_if_eq C dX11_lagoon_31 44 (by decide) (fun hc => ?_) (fun hc => ?_)
  · replace hw := hw.1 hc
    refine r_aload_n C dX11_lagoon_44 1 rfl ?_
    have hob := hw.1
    obtain ⟨rv9, hp, hw⟩ := hw.2
    refine r_getP C fl_RX11_16_10 hob hp (fun _ _ _ => rfl) dX11_lagoon_45 ?_
    refine r_aload_n C dX11_lagoon_48 1 rfl ?_
    have hob := hw.1
    obtain ⟨rv10, hp, hw⟩ := hw.2
    refine r_getP C fl_RX11_30_10 hob hp (fun _ _ _ => rfl) dX11_lagoon_49 ?_
    refine r_aload_n C dX11_lagoon_52 1 rfl ?_
    have hob := hw.1
    obtain ⟨rv11, hp, hw⟩ := hw.2
    refine r_getP C fl_RX11_16_10 hob hp (fun _ _ _ => rfl) dX11_lagoon_53 ?_
    have hob := hw.1
    obtain ⟨rv12, hp, hw⟩ := hw.2
    refine r_getP C fl_RX11_96_2 hob hp (fun _ _ _ => rfl) dX11_lagoon_56 ?_
    have hob := hw.1
    replace hw := hw.2
    refine r_callV C (As := [.ref (G.1 + rv12)]) (rest := [.ref (G.1 + rv9)]) (c_X5_begin G hv8 rv10 rv12 _ hw) yl_X5_begin (gm4 (List.mem_of_getElem? (i := 65) rfl) rfl) (gm4 (List.mem_of_getElem? (i := 66) rfl) rfl) (ci := 5) rfl (by decide) (gm4 (List.mem_of_getElem? (i := 67) rfl) rfl) hob (by decide) rfl (Nat.le_of_ble_eq_true rfl) dX11_lagoon_59 rfl (kP fun hv13 rv14 hw => ?_)
    refine r_putP C fp_RX11_96_2 hw.1 (fun _ _ _ => rfl) dX11_lagoon_62 ?_
    replace hw := hw.2
    refine r_toph fun hv15 ehv15 => ?_
    replace hw := hw hv15 ehv15
    refine r_iload_n C dX11_lagoon_65 0 rfl ?_
    exact r_iret C hr dX11_lagoon_66 hw
  · replace hw := hw.2 hc
    refine r_iconst (v := (-1)) C dX11_lagoon_34 (by decide) ?_
    refine r_aload_n C dX11_lagoon_35 1 rfl ?_
    have hob := hw.1
    obtain ⟨rv16, hp, hw⟩ := hw.2
    refine r_getP C fl_RX11_16_10 hob hp (fun _ _ _ => rfl) dX11_lagoon_36 ?_
    refine r_getI C fl_RX11_93_2 hw.1 (fun _ _ _ => rfl) dX11_lagoon_39 ?_
    replace hw := hw.2
    refine r_isub C dX11_lagoon_42 ?_
    exact r_iret C hr dX11_lagoon_43 hw
theorem dX11_fault_0 : decode cX11_fault 0 = .ok (.aload_n 0, 1) := by decide +kernel
theorem dX11_fault_1 : decode cX11_fault 1 = .ok (.getfield 90, 3) := by decide +kernel
theorem dX11_fault_4 : decode cX11_fault 4 = .ok (.ireturn, 1) := by decide +kernel
def wp_X11_fault (h : AH) (a0 : Nat) (post : AH → Int32 → Prop) : Prop := (ob h a0 10) ∧ (post h (aI h a0 2))
set_option maxRecDepth 100000 in
theorem c_X11_fault (G : GG) (h : AH) (a0 : Nat) (post : AH → Int32 → Prop) (hw : wp_X11_fault h a0 post) : MC G yX11_fault cX11_fault 1 (some .int) 0 0 h [.ref (G.1 + a0)] (pI post) := by
  refine MC.of (lv := [(0, .ref (G.1 + a0))]) (by decide) (Nat.le_of_ble_eq_true rfl) rfl fun p l e R s m args below meth c C hr hnm => ?_
  unfold wp_X11_fault at hw
  refine r_aload_n C dX11_fault_0 0 rfl ?_
  refine r_getI C fl_RX11_90_10 hw.1 (fun _ _ _ => rfl) dX11_fault_1 ?_
  replace hw := hw.2
  exact r_iret C hr dX11_fault_4 hw
theorem dX11_isHour_0 : decode cX11_isHour 0 = .ok (.iload_n 0, 1) := by decide +kernel
theorem dX11_isHour_1 : decode cX11_isHour 1 = .ok (.ifCond .lt 13, 3) := by decide +kernel
theorem dX11_isHour_4 : decode cX11_isHour 4 = .ok (.iload_n 0, 1) := by decide +kernel
theorem dX11_isHour_5 : decode cX11_isHour 5 = .ok (.bipush 24, 2) := by decide +kernel
theorem dX11_isHour_7 : decode cX11_isHour 7 = .ok (.if_icmp .ge 7, 3) := by decide +kernel
theorem dX11_isHour_10 : decode cX11_isHour 10 = .ok (.iconst 1, 1) := by decide +kernel
theorem dX11_isHour_11 : decode cX11_isHour 11 = .ok (.goto 4, 3) := by decide +kernel
theorem dX11_isHour_14 : decode cX11_isHour 14 = .ok (.iconst 0, 1) := by decide +kernel
theorem dX11_isHour_15 : decode cX11_isHour 15 = .ok (.ireturn, 1) := by decide +kernel
def wp_X11_isHour (h : AH) (x0 : Int32) (post : AH → Int32 → Prop) : Prop := (x0 < 0 → (((0 : Int32) = 0 ∨ (0 : Int32) = 1) ∧ post h 0)) ∧ (¬ x0 < 0 → ((24 ≤ x0 → (((0 : Int32) = 0 ∨ (0 : Int32) = 1) ∧ post h 0)) ∧ (¬ 24 ≤ x0 → (((1 : Int32) = 0 ∨ (1 : Int32) = 1) ∧ post h 1))))
set_option maxRecDepth 100000 in
theorem c_X11_isHour (G : GG) (h : AH) (x0 : Int32) (post : AH → Int32 → Prop) (hw : wp_X11_isHour h x0 post) : MC G yX11_isHour cX11_isHour 1 (some .boolean) 0 0 h [.int x0] (pI post) := by
  refine MC.of (lv := [(0, .int x0)]) (by decide) (Nat.le_of_ble_eq_true rfl) rfl fun p l e R s m args below meth c C hr hnm => ?_
  unfold wp_X11_isHour at hw
  refine r_iload_n C dX11_isHour_0 0 rfl ?_
  refine r_if_lt C dX11_isHour_1 14 (by decide) (fun hc => ?_) (fun hc => ?_)
  · replace hw := hw.1 hc
    refine r_iconst (v := 0) C dX11_isHour_14 (by decide) ?_
    exact r_zret C hr dX11_isHour_15 hw.1 hw.2
  · replace hw := hw.2 hc
    refine r_iload_n C dX11_isHour_4 0 rfl ?_
    refine r_bipush (v := 24) C dX11_isHour_5 (by decide) ?_
    refine r_icmp_ge C dX11_isHour_7 14 (by decide) (fun hc => ?_) (fun hc => ?_)
    · replace hw := hw.1 hc
      refine r_iconst (v := 0) C dX11_isHour_14 (by decide) ?_
      exact r_zret C hr dX11_isHour_15 hw.1 hw.2
    · replace hw := hw.2 hc
      refine r_iconst (v := 1) C dX11_isHour_10 (by decide) ?_
      refine r_goto C dX11_isHour_11 15 (by decide) ?_
      exact r_zret C hr dX11_isHour_15 hw.1 hw.2
theorem dX11_water_0 : decode cX11_water 0 = .ok (.aload_n 0, 1) := by decide +kernel
theorem dX11_water_1 : decode cX11_water 1 = .ok (.getfield 30, 3) := by decide +kernel
theorem dX11_water_4 : decode cX11_water 4 = .ok (.getfield 40, 3) := by decide +kernel
theorem dX11_water_7 : decode cX11_water 7 = .ok (.iload_n 1, 1) := by decide +kernel
theorem dX11_water_8 : decode cX11_water 8 = .ok (.iload_n 2, 1) := by decide +kernel
theorem dX11_water_9 : decode cX11_water 9 = .ok (.invokevirtual 103, 3) := by decide +kernel
theorem dX11_water_12 : decode cX11_water 12 = .ok (.ifCond .eq 10, 3) := by decide +kernel
theorem dX11_water_15 : decode cX11_water 15 = .ok (.iload_n 3, 1) := by decide +kernel
theorem dX11_water_16 : decode cX11_water 16 = .ok (.invokestatic 109, 3) := by decide +kernel
theorem dX11_water_19 : decode cX11_water 19 = .ok (.ifCond .ne 5, 3) := by decide +kernel
theorem dX11_water_22 : decode cX11_water 22 = .ok (.iconst (-1), 1) := by decide +kernel
theorem dX11_water_23 : decode cX11_water 23 = .ok (.ireturn, 1) := by decide +kernel
theorem dX11_water_24 : decode cX11_water 24 = .ok (.iconst 0, 1) := by decide +kernel
theorem dX11_water_25 : decode cX11_water 25 = .ok (.aload_n 0, 1) := by decide +kernel
theorem dX11_water_26 : decode cX11_water 26 = .ok (.getfield 30, 3) := by decide +kernel
theorem dX11_water_29 : decode cX11_water 29 = .ok (.getfield 40, 3) := by decide +kernel
theorem dX11_water_32 : decode cX11_water 32 = .ok (.getfield 113, 3) := by decide +kernel
theorem dX11_water_35 : decode cX11_water 35 = .ok (.iload_n 3, 1) := by decide +kernel
theorem dX11_water_36 : decode cX11_water 36 = .ok (.iaload, 1) := by decide +kernel
theorem dX11_water_37 : decode cX11_water 37 = .ok (.aload_n 0, 1) := by decide +kernel
theorem dX11_water_38 : decode cX11_water 38 = .ok (.getfield 30, 3) := by decide +kernel
theorem dX11_water_41 : decode cX11_water 41 = .ok (.getfield 40, 3) := by decide +kernel
theorem dX11_water_44 : decode cX11_water 44 = .ok (.getfield 117, 3) := by decide +kernel
theorem dX11_water_47 : decode cX11_water 47 = .ok (.bipush 8, 2) := by decide +kernel
theorem dX11_water_49 : decode cX11_water 49 = .ok (.iload_n 2, 1) := by decide +kernel
theorem dX11_water_50 : decode cX11_water 50 = .ok (.imul, 1) := by decide +kernel
theorem dX11_water_51 : decode cX11_water 51 = .ok (.iload_n 1, 1) := by decide +kernel
theorem dX11_water_52 : decode cX11_water 52 = .ok (.iadd, 1) := by decide +kernel
theorem dX11_water_53 : decode cX11_water 53 = .ok (.iaload, 1) := by decide +kernel
theorem dX11_water_54 : decode cX11_water 54 = .ok (.isub, 1) := by decide +kernel
theorem dX11_water_55 : decode cX11_water 55 = .ok (.invokestatic 120, 3) := by decide +kernel
theorem dX11_water_58 : decode cX11_water 58 = .ok (.ireturn, 1) := by decide +kernel
def wp_X11_water (h : AH) (a0 : Nat) (x1 : Int32) (x2 : Int32) (x3 : Int32) (post : AH → Int32 → Prop) : Prop := (ob h a0 10) ∧ (∃ rv1, aP h a0 5 = some rv1 ∧ ((ob h rv1 5) ∧ (∃ rv2, aP h rv1 0 = some rv2 ∧ ((ob h rv2 1) ∧ wp_X1_hasCell h rv2 x1 x2 (fun hv3 iv4 => (iv4 = 0 → (post hv3 (-1))) ∧ (¬ iv4 = 0 → (wp_X11_isHour hv3 x3 (fun hv5 iv6 => (¬ iv6 = 0 → ((ob hv5 a0 10) ∧ (∃ rv7, aP hv5 a0 5 = some rv7 ∧ ((ob hv5 rv7 5) ∧ (∃ rv8, aP hv5 rv7 0 = some rv8 ∧ ((ob hv5 rv8 1) ∧ (∃ rv9, aP hv5 rv8 4 = some rv9 ∧ ((ob hv5 rv9 13) ∧ ((vp_in x3 (aL hv5 rv9)) ∧ ((ob hv5 a0 10) ∧ (∃ rv10, aP hv5 a0 5 = some rv10 ∧ ((ob hv5 rv10 5) ∧ (∃ rv11, aP hv5 rv10 0 = some rv11 ∧ ((ob hv5 rv11 1) ∧ (∃ rv12, aP hv5 rv11 2 = some rv12 ∧ ((ob hv5 rv12 13) ∧ ((vp_in (((8 : Int32) * x2) + x1) (aL hv5 rv12)) ∧ (post hv5 (mx (0 : Int32) ((aI hv5 rv9 x3.toNatClampNeg) - (aI hv5 rv12 (((8 : Int32) * x2) + x1).toNatClampNeg))))))))))))))))))))) ∧ (iv6 = 0 → (post hv5 (-1)))))))))))
set_option maxRecDepth 100000 in
theorem c_X11_water (G : GG) (h : AH) (a0 : Nat) (x1 : Int32) (x2 : Int32) (x3 : Int32) (post : AH → Int32 → Prop) (hw : wp_X11_water h a0 x1 x2 x3 post) : MC G yX11_water cX11_water 4 (some .int) 1 22 h [.ref (G.1 + a0), .int x1, .int x2, .int x3] (pI post) := by
  refine MC.of (lv := [(0, .ref (G.1 + a0)), (1, .int x1), (2, .int x2), (3, .int x3)]) (by decide) (Nat.le_of_ble_eq_true rfl) rfl fun p l e R s m args below meth c C hr hnm => ?_
  unfold wp_X11_water at hw
  refine r_aload_n C dX11_water_0 0 rfl ?_
  have hob := hw.1
  obtain ⟨rv1, hp, hw⟩ := hw.2
  refine r_getP C fl_RX11_30_10 hob hp (fun _ _ _ => rfl) dX11_water_1 ?_
  have hob := hw.1
  obtain ⟨rv2, hp, hw⟩ := hw.2
  refine r_getP C fl_RX11_40_5 hob hp (fun _ _ _ => rfl) dX11_water_4 ?_
  refine r_iload_n C dX11_water_7 1 rfl ?_
  refine r_iload_n C dX11_water_8 2 rfl ?_
  have hob := hw.1
  replace hw := hw.2
  refine r_callV C (As := [.int x1, .int x2]) (rest := []) (c_X1_hasCell G h rv2 x1 x2 _ hw) yl_X1_hasCell (gm4 (List.mem_of_getElem? (i := 86) rfl) rfl) (gm4 (List.mem_of_getElem? (i := 87) rfl) rfl) (ci := 1) rfl (by decide) (gm4 (List.mem_of_getElem? (i := 88) rfl) rfl) hob (by decide) rfl (Nat.le_of_ble_eq_true rfl) dX11_water_9 rfl (kI fun hv3 iv4 hw => ?_)
  refine r_if_eq C dX11_water_12 22 (by decide) (fun hc => ?_) (fun hc => ?_)
  · replace hw := hw.1 hc
    refine r_iconst (v := (-1)) C dX11_water_22 (by decide) ?_
    exact r_iret C hr dX11_water_23 hw
  · replace hw := hw.2 hc
    refine r_iload_n C dX11_water_15 3 rfl ?_
    refine r_callS C (As := [.int x3]) (rest := []) (c_X11_isHour G hv3 x3 _ hw) yl_X11_isHour (gm4 (List.mem_of_getElem? (i := 90) rfl) rfl) (gm4 (List.mem_of_getElem? (i := 91) rfl) rfl) (by decide) rfl (Nat.le_of_ble_eq_true rfl) dX11_water_16 rfl (kI fun hv5 iv6 hw => ?_)
    refine r_if_ne C dX11_water_19 24 (by decide) (fun hc => ?_) (fun hc => ?_)
    · replace hw := hw.1 hc
      refine r_iconst (v := 0) C dX11_water_24 (by decide) ?_
      refine r_aload_n C dX11_water_25 0 rfl ?_
      have hob := hw.1
      obtain ⟨rv7, hp, hw⟩ := hw.2
      refine r_getP C fl_RX11_30_10 hob hp (fun _ _ _ => rfl) dX11_water_26 ?_
      have hob := hw.1
      obtain ⟨rv8, hp, hw⟩ := hw.2
      refine r_getP C fl_RX11_40_5 hob hp (fun _ _ _ => rfl) dX11_water_29 ?_
      have hob := hw.1
      obtain ⟨rv9, hp, hw⟩ := hw.2
      refine r_getP C fl_RX11_113_1 hob hp (fun _ _ _ => rfl) dX11_water_32 ?_
      refine r_iload_n C dX11_water_35 3 rfl ?_
      refine r_iaload C hw.1 hw.2.1 dX11_water_36 ?_
      replace hw := hw.2.2
      refine r_aload_n C dX11_water_37 0 rfl ?_
      have hob := hw.1
      obtain ⟨rv10, hp, hw⟩ := hw.2
      refine r_getP C fl_RX11_30_10 hob hp (fun _ _ _ => rfl) dX11_water_38 ?_
      have hob := hw.1
      obtain ⟨rv11, hp, hw⟩ := hw.2
      refine r_getP C fl_RX11_40_5 hob hp (fun _ _ _ => rfl) dX11_water_41 ?_
      have hob := hw.1
      obtain ⟨rv12, hp, hw⟩ := hw.2
      refine r_getP C fl_RX11_117_1 hob hp (fun _ _ _ => rfl) dX11_water_44 ?_
      refine r_bipush (v := 8) C dX11_water_47 (by decide) ?_
      refine r_iload_n C dX11_water_49 2 rfl ?_
      refine r_imul C dX11_water_50 ?_
      refine r_iload_n C dX11_water_51 1 rfl ?_
      refine r_iadd C dX11_water_52 ?_
      refine r_iaload C hw.1 hw.2.1 dX11_water_53 ?_
      replace hw := hw.2.2
      refine r_isub C dX11_water_54 ?_
      refine r_mmax C (gm4 (List.mem_of_getElem? (i := 93) rfl) rfl) (gm4 (List.mem_of_getElem? (i := 14) rfl) rfl) (gm1 (List.mem_of_getElem? (i := 19) rfl) rfl) (gm4 (List.mem_of_getElem? (i := 15) rfl) rfl) ⟨by decide, Nat.le_of_ble_eq_true rfl⟩ dX11_water_55 ?_
      exact r_iret C hr dX11_water_58 hw
    · replace hw := hw.2 hc
      refine r_iconst (v := (-1)) C dX11_water_22 (by decide) ?_
      exact r_iret C hr dX11_water_23 hw
theorem dX11_at_0 : decode cX11_at 0 = .ok (.aload_n 0, 1) := by decide +kernel
theorem dX11_at_1 : decode cX11_at 1 = .ok (.getfield 30, 3) := by decide +kernel
theorem dX11_at_4 : decode cX11_at 4 = .ok (.getfield 40, 3) := by decide +kernel
theorem dX11_at_7 : decode cX11_at 7 = .ok (.iload_n 1, 1) := by decide +kernel
theorem dX11_at_8 : decode cX11_at 8 = .ok (.iload_n 2, 1) := by decide +kernel
theorem dX11_at_9 : decode cX11_at 9 = .ok (.invokevirtual 103, 3) := by decide +kernel
theorem dX11_at_12 : decode cX11_at 12 = .ok (.ifCond .ne 5, 3) := by decide +kernel
theorem dX11_at_15 : decode cX11_at 15 = .ok (.iconst (-1), 1) := by decide +kernel
theorem dX11_at_16 : decode cX11_at 16 = .ok (.ireturn, 1) := by decide +kernel
theorem dX11_at_17 : decode cX11_at 17 = .ok (.iconst 0, 1) := by decide +kernel
theorem dX11_at_18 : decode cX11_at 18 = .ok (.istore_n 3, 1) := by decide +kernel
theorem dX11_at_19 : decode cX11_at 19 = .ok (.iload_n 3, 1) := by decide +kernel
theorem dX11_at_20 : decode cX11_at 20 = .ok (.aload_n 0, 1) := by decide +kernel
theorem dX11_at_21 : decode cX11_at 21 = .ok (.getfield 30, 3) := by decide +kernel
theorem dX11_at_24 : decode cX11_at 24 = .ok (.getfield 40, 3) := by decide +kernel
theorem dX11_at_27 : decode cX11_at 27 = .ok (.getfield 147, 3) := by decide +kernel
theorem dX11_at_30 : decode cX11_at 30 = .ok (.if_icmp .ge 37, 3) := by decide +kernel
theorem dX11_at_33 : decode cX11_at 33 = .ok (.aload_n 0, 1) := by decide +kernel
theorem dX11_at_34 : decode cX11_at 34 = .ok (.getfield 30, 3) := by decide +kernel
theorem dX11_at_37 : decode cX11_at 37 = .ok (.getfield 132, 3) := by decide +kernel
theorem dX11_at_40 : decode cX11_at 40 = .ok (.getfield 150, 3) := by decide +kernel
theorem dX11_at_43 : decode cX11_at 43 = .ok (.iload_n 3, 1) := by decide +kernel
theorem dX11_at_44 : decode cX11_at 44 = .ok (.laload, 1) := by decide +kernel
theorem dX11_at_45 : decode cX11_at 45 = .ok (.bipush 8, 2) := by decide +kernel
theorem dX11_at_47 : decode cX11_at 47 = .ok (.iload_n 2, 1) := by decide +kernel
theorem dX11_at_48 : decode cX11_at 48 = .ok (.imul, 1) := by decide +kernel
theorem dX11_at_49 : decode cX11_at 49 = .ok (.iload_n 1, 1) := by decide +kernel
theorem dX11_at_50 : decode cX11_at 50 = .ok (.iadd, 1) := by decide +kernel
theorem dX11_at_51 : decode cX11_at 51 = .ok (.lushr, 1) := by decide +kernel
theorem dX11_at_52 : decode cX11_at 52 = .ok (.lconst 1, 1) := by decide +kernel
theorem dX11_at_53 : decode cX11_at 53 = .ok (.land, 1) := by decide +kernel
theorem dX11_at_54 : decode cX11_at 54 = .ok (.lconst 0, 1) := by decide +kernel
theorem dX11_at_55 : decode cX11_at 55 = .ok (.lcmp, 1) := by decide +kernel
theorem dX11_at_56 : decode cX11_at 56 = .ok (.ifCond .eq 5, 3) := by decide +kernel
theorem dX11_at_59 : decode cX11_at 59 = .ok (.iload_n 3, 1) := by decide +kernel
theorem dX11_at_60 : decode cX11_at 60 = .ok (.ireturn, 1) := by decide +kernel
theorem dX11_at_61 : decode cX11_at 61 = .ok (.iinc 3 1, 3) := by decide +kernel
theorem dX11_at_64 : decode cX11_at 64 = .ok (.goto (-45), 3) := by decide +kernel
theorem dX11_at_67 : decode cX11_at 67 = .ok (.iconst (-1), 1) := by decide +kernel
theorem dX11_at_68 : decode cX11_at 68 = .ok (.ireturn, 1) := by decide +kernel
def wb_X11_at_19 (K19 : AH → Nat → Int32 → Int32 → Int32 → Prop) (h : AH) (al0 : Nat) (xl1 : Int32) (xl2 : Int32) (xl3 : Int32)  (post : AH → Int32 → Prop) : Prop := (ob h al0 10) ∧ (∃ rv1, aP h al0 5 = some rv1 ∧ ((ob h rv1 5) ∧ (∃ rv2, aP h rv1 0 = some rv2 ∧ ((ob h rv2 1) ∧ (((aI h rv2 5) ≤ xl3 → (post h (-1))) ∧ (¬ (aI h rv2 5) ≤ xl3 → ((ob h al0 10) ∧ (∃ rv3, aP h al0 5 = some rv3 ∧ ((ob h rv3 5) ∧ (∃ rv4, aP h rv3 1 = some rv4 ∧ ((ob h rv4 7) ∧ (∃ rv5, aP h rv4 2 = some rv5 ∧ ((ob h rv5 14) ∧ ((vp_in xl3 (aL h rv5)) ∧ (((lg_cmp ((((aJ h rv5 xl3.toNatClampNeg).toUInt64 >>> ((((8 : Int32) * xl2) + xl1).toInt64.toUInt64 &&& Int64.toUInt64 63)).toInt64) &&& (1 : Int64)) 0) = 0 → (∀ iv6 : Int32, iv6 = xl3 + 1 → (K19 h al0 xl1 xl2 iv6))) ∧ (¬ (lg_cmp ((((aJ h rv5 xl3.toNatClampNeg).toUInt64 >>> ((((8 : Int32) * xl2) + xl1).toInt64.toUInt64 &&& Int64.toUInt64 63)).toInt64) &&& (1 : Int64)) 0) = 0 → (post h xl3)))))))))))))))))
set_option maxRecDepth 100000 in
theorem tb_X11_at_19 {G : GG} {p : Program} {l : Launch} {e : Env} {R : Room} {s : State} {m : MethodId} {args : Array Value} {below : List Frame} {meth : Method} {c : Code} {n0 s0 : Nat} {post : AH → Int32 → Prop} (C : Cx G p R s m args meth c 4 cX11_at RX11 n0 s0 1 22) (hr : meth.sig.returnType = (some .int)) {K19 : AH → Nat → Int32 → Int32 → Int32 → Prop} (hK19 : ∀ (h : AH) (al0 : Nat) (xl1 : Int32) (xl2 : Int32) (xl3 : Int32), K19 h al0 xl1 xl2 xl3 → AW G p l e R s m args below meth c 4 (QM G (pI post) args s below n0 s0) 19 [(0, .ref (G.1 + al0)), (1, .int xl1), (2, .int xl2), (3, .int xl3)] [] h) {h : AH} {al0 : Nat} {xl1 : Int32} {xl2 : Int32} {xl3 : Int32}  (hw : wb_X11_at_19 K19 h al0 xl1 xl2 xl3 post) : AW G p l e R s m args below meth c 4 (QM G (pI post) args s below n0 s0) 19 [(0, .ref (G.1 + al0)), (1, .int xl1), (2, .int xl2), (3, .int xl3)] [] h := by
  unfold wb_X11_at_19 at hw
  refine r_iload_n C dX11_at_19 3 rfl ?_
  refine r_aload_n C dX11_at_20 0 rfl ?_
  have hob := hw.1
  obtain ⟨rv1, hp, hw⟩ := hw.2
  refine r_getP C fl_RX11_30_10 hob hp (fun _ _ _ => rfl) dX11_at_21 ?_
  have hob := hw.1
  obtain ⟨rv2, hp, hw⟩ := hw.2
  refine r_getP C fl_RX11_40_5 hob hp (fun _ _ _ => rfl) dX11_at_24 ?_
  refine r_getI C fl_RX11_147_1 hw.1 (fun _ _ _ => rfl) dX11_at_27 ?_
  replace hw := hw.2
  refine r_icmp_ge C dX11_at_30 67 (by decide) (fun hc => ?_) (fun hc => ?_)
  · replace hw := hw.1 hc
    refine r_iconst (v := (-1)) C dX11_at_67 (by decide) ?_
    exact r_iret C hr dX11_at_68 hw
  · replace hw := hw.2 hc
    refine r_aload_n C dX11_at_33 0 rfl ?_
    have hob := hw.1
    obtain ⟨rv3, hp, hw⟩ := hw.2
    refine r_getP C fl_RX11_30_10 hob hp (fun _ _ _ => rfl) dX11_at_34 ?_
    have hob := hw.1
    obtain ⟨rv4, hp, hw⟩ := hw.2
    refine r_getP C fl_RX11_132_5 hob hp (fun _ _ _ => rfl) dX11_at_37 ?_
    have hob := hw.1
    obtain ⟨rv5, hp, hw⟩ := hw.2
    refine r_getP C fl_RX11_150_7 hob hp (fun _ _ _ => rfl) dX11_at_40 ?_
    refine r_iload_n C dX11_at_43 3 rfl ?_
    refine r_laload C hw.1 hw.2.1 dX11_at_44 ?_
    replace hw := hw.2.2
    refine r_bipush (v := 8) C dX11_at_45 (by decide) ?_
    refine r_iload_n C dX11_at_47 2 rfl ?_
    refine r_imul C dX11_at_48 ?_
    refine r_iload_n C dX11_at_49 1 rfl ?_
    refine r_iadd C dX11_at_50 ?_
    refine r_lushr C dX11_at_51 ?_
    refine r_lconst (v := 1) C dX11_at_52 (by decide) ?_
    refine r_land C dX11_at_53 ?_
    refine r_lconst (v := 0) C dX11_at_54 (by decide) ?_
    refine r_lcmp C dX11_at_55 ?_
    refine r_if_eq C dX11_at_56 61 (by decide) (fun hc => ?_) (fun hc => ?_)
    · replace hw := hw.1 hc
      obtain ⟨iv6, eiv6⟩ : ∃ q : Int32, q = xl3 + 1 := ⟨_, rfl⟩
      replace hw := hw iv6 eiv6
      refine r_iinc C dX11_at_61 3 rfl (by rw [eiv6]; rfl) [(3, .int iv6), (0, .ref (G.1 + al0)), (1, .int xl1), (2, .int xl2)] (by decide) rfl ?_
      refine r_goto C dX11_at_64 19 (by decide) ?_
      refine r_sub [1, 2, 3, 0] rfl ?_
      exact hK19 _ _ _ _ _ hw
    · replace hw := hw.2 hc
      refine r_iload_n C dX11_at_59 3 rfl ?_
      exact r_iret C hr dX11_at_60 hw
def wl_X11_at_19  (post : AH → Int32 → Prop) : Nat → AH → Nat → Int32 → Int32 → Int32 → Prop
  | 0 => fun _ _ _ _ _ => False
  | n + 1 => fun h al0 xl1 xl2 xl3 => wb_X11_at_19  (wl_X11_at_19  post n) h al0 xl1 xl2 xl3 post
theorem tl_X11_at_19 {G : GG} {p : Program} {l : Launch} {e : Env} {R : Room} {s : State} {m : MethodId} {args : Array Value} {below : List Frame} {meth : Method} {c : Code} {n0 s0 : Nat} {post : AH → Int32 → Prop} (C : Cx G p R s m args meth c 4 cX11_at RX11 n0 s0 1 22) (hr : meth.sig.returnType = (some .int))   : ∀ (n : Nat) (h : AH) (al0 : Nat) (xl1 : Int32) (xl2 : Int32) (xl3 : Int32), wl_X11_at_19  post n h al0 xl1 xl2 xl3 → AW G p l e R s m args below meth c 4 (QM G (pI post) args s below n0 s0) 19 [(0, .ref (G.1 + al0)), (1, .int xl1), (2, .int xl2), (3, .int xl3)] [] h := by
  intro n
  induction n with
  | zero => intro h al0 xl1 xl2 xl3 hw; exact hw.elim
  | succ n ih => intro h al0 xl1 xl2 xl3 hw; exact tb_X11_at_19 C hr  ih hw
def wp_X11_at (h : AH) (a0 : Nat) (x1 : Int32) (x2 : Int32) (post : AH → Int32 → Prop) : Prop := (ob h a0 10) ∧ (∃ rv1, aP h a0 5 = some rv1 ∧ ((ob h rv1 5) ∧ (∃ rv2, aP h rv1 0 = some rv2 ∧ ((ob h rv2 1) ∧ wp_X1_hasCell h rv2 x1 x2 (fun hv3 iv4 => (¬ iv4 = 0 → (∃ n, wl_X11_at_19  post n hv3 a0 x1 x2 0)) ∧ (iv4 = 0 → (post hv3 (-1))))))))
set_option maxRecDepth 100000 in
theorem c_X11_at (G : GG) (h : AH) (a0 : Nat) (x1 : Int32) (x2 : Int32) (post : AH → Int32 → Prop) (hw : wp_X11_at h a0 x1 x2 post) : MC G yX11_at cX11_at 4 (some .int) 1 22 h [.ref (G.1 + a0), .int x1, .int x2] (pI post) := by
  refine MC.of (lv := [(0, .ref (G.1 + a0)), (1, .int x1), (2, .int x2)]) (by decide) (Nat.le_of_ble_eq_true rfl) rfl fun p l e R s m args below meth c C hr hnm => ?_
  unfold wp_X11_at at hw
  refine r_aload_n C dX11_at_0 0 rfl ?_
  have hob := hw.1
  obtain ⟨rv1, hp, hw⟩ := hw.2
  refine r_getP C fl_RX11_30_10 hob hp (fun _ _ _ => rfl) dX11_at_1 ?_
  have hob := hw.1
  obtain ⟨rv2, hp, hw⟩ := hw.2
  refine r_getP C fl_RX11_40_5 hob hp (fun _ _ _ => rfl) dX11_at_4 ?_
  refine r_iload_n C dX11_at_7 1 rfl ?_
  refine r_iload_n C dX11_at_8 2 rfl ?_
  have hob := hw.1
  replace hw := hw.2
  refine r_callV C (As := [.int x1, .int x2]) (rest := []) (c_X1_hasCell G h rv2 x1 x2 _ hw) yl_X1_hasCell (gm4 (List.mem_of_getElem? (i := 86) rfl) rfl) (gm4 (List.mem_of_getElem? (i := 87) rfl) rfl) (ci := 1) rfl (by decide) (gm4 (List.mem_of_getElem? (i := 88) rfl) rfl) hob (by decide) rfl (Nat.le_of_ble_eq_true rfl) dX11_at_9 rfl (kI fun hv3 iv4 hw => ?_)
  refine r_if_ne C dX11_at_12 17 (by decide) (fun hc => ?_) (fun hc => ?_)
  · replace hw := hw.1 hc
    refine r_iconst (v := 0) C dX11_at_17 (by decide) ?_
    refine r_istore_n C dX11_at_18 [(3, .int 0), (0, .ref (G.1 + a0)), (1, .int x1), (2, .int x2)] (by decide) rfl ?_
    refine r_sub [1, 2, 3, 0] rfl ?_
    obtain ⟨n, hw⟩ := hw
    exact tl_X11_at_19 C hr  n _ _ _ _ _ hw
  · replace hw := hw.2 hc
    refine r_iconst (v := (-1)) C dX11_at_15 (by decide) ?_
    exact r_iret C hr dX11_at_16 hw
theorem dX11_lay_0 : decode cX11_lay 0 = .ok (.aload_n 0, 1) := by decide +kernel
theorem dX11_lay_1 : decode cX11_lay 1 = .ok (.getfield 47, 3) := by decide +kernel
theorem dX11_lay_4 : decode cX11_lay 4 = .ok (.aload_n 0, 1) := by decide +kernel
theorem dX11_lay_5 : decode cX11_lay 5 = .ok (.getfield 30, 3) := by decide +kernel
theorem dX11_lay_8 : decode cX11_lay 8 = .ok (.getfield 40, 3) := by decide +kernel
theorem dX11_lay_11 : decode cX11_lay 11 = .ok (.aload_n 0, 1) := by decide +kernel
theorem dX11_lay_12 : decode cX11_lay 12 = .ok (.getfield 9, 3) := by decide +kernel
theorem dX11_lay_15 : decode cX11_lay 15 = .ok (.aload_n 0, 1) := by decide +kernel
theorem dX11_lay_16 : decode cX11_lay 16 = .ok (.invokevirtual 79, 3) := by decide +kernel
theorem dX11_lay_19 : decode cX11_lay 19 = .ok (.invokevirtual 154, 3) := by decide +kernel
theorem dX11_lay_22 : decode cX11_lay 22 = .ok (.ifCond .ne 5, 3) := by decide +kernel
theorem dX11_lay_25 : decode cX11_lay 25 = .ok (.iconst 0, 1) := by decide +kernel
theorem dX11_lay_26 : decode cX11_lay 26 = .ok (.ireturn, 1) := by decide +kernel
theorem dX11_lay_27 : decode cX11_lay 27 = .ok (.aload_n 0, 1) := by decide +kernel
theorem dX11_lay_28 : decode cX11_lay 28 = .ok (.getfield 30, 3) := by decide +kernel
theorem dX11_lay_31 : decode cX11_lay 31 = .ok (.getfield 132, 3) := by decide +kernel
theorem dX11_lay_34 : decode cX11_lay 34 = .ok (.aload_n 0, 1) := by decide +kernel
theorem dX11_lay_35 : decode cX11_lay 35 = .ok (.getfield 30, 3) := by decide +kernel
theorem dX11_lay_38 : decode cX11_lay 38 = .ok (.getfield 40, 3) := by decide +kernel
theorem dX11_lay_41 : decode cX11_lay 41 = .ok (.aload_n 0, 1) := by decide +kernel
theorem dX11_lay_42 : decode cX11_lay 42 = .ok (.getfield 47, 3) := by decide +kernel
theorem dX11_lay_45 : decode cX11_lay 45 = .ok (.invokevirtual 158, 3) := by decide +kernel
theorem dX11_lay_48 : decode cX11_lay 48 = .ok (.iconst 1, 1) := by decide +kernel
theorem dX11_lay_49 : decode cX11_lay 49 = .ok (.ireturn, 1) := by decide +kernel
def wp_X11_lay (h : AH) (a0 : Nat) (post : AH → Int32 → Prop) : Prop := (ob h a0 10) ∧ (∃ rv1, aP h a0 7 = some rv1 ∧ ((ob h a0 10) ∧ (∃ rv2, aP h a0 5 = some rv2 ∧ ((ob h rv2 5) ∧ (∃ rv3, aP h rv2 0 = some rv3 ∧ ((ob h a0 10) ∧ (∃ rv4, aP h a0 0 = some rv4 ∧ ((ob h a0 10) ∧ wp_X11_takeTape h a0  (fun hv5 iv6 => (ob hv5 rv1 7) ∧ wp_X8_readBytes hv5 rv1 rv3 rv4 iv6 (fun hv7 iv8 => (¬ iv8 = 0 → ((ob hv7 a0 10) ∧ (∃ rv9, aP hv7 a0 5 = some rv9 ∧ ((ob hv7 rv9 5) ∧ (∃ rv10, aP hv7 rv9 1 = some rv10 ∧ ((ob hv7 a0 10) ∧ (∃ rv11, aP hv7 a0 5 = some rv11 ∧ ((ob hv7 rv11 5) ∧ (∃ rv12, aP hv7 rv11 0 = some rv12 ∧ ((ob hv7 a0 10) ∧ (∃ rv13, aP hv7 a0 7 = some rv13 ∧ ((ob hv7 rv10 7) ∧ wp_X8_follow hv7 rv10 rv12 rv13 (fun hv14  => ((1 : Int32) = 0 ∨ (1 : Int32) = 1) ∧ post hv14 1))))))))))))) ∧ (iv8 = 0 → (((0 : Int32) = 0 ∨ (0 : Int32) = 1) ∧ post hv7 0))))))))))))
set_option maxRecDepth 100000 in
theorem c_X11_lay (G : GG) (h : AH) (a0 : Nat) (post : AH → Int32 → Prop) (hw : wp_X11_lay h a0 post) : MC G yX11_lay cX11_lay 1 (some .boolean) 4 97 h [.ref (G.1 + a0)] (pI post) := by
  refine MC.of (lv := [(0, .ref (G.1 + a0))]) (by decide) (Nat.le_of_ble_eq_true rfl) rfl fun p l e R s m args below meth c C hr hnm => ?_
  unfold wp_X11_lay at hw
  refine r_aload_n C dX11_lay_0 0 rfl ?_
  have hob := hw.1
  obtain ⟨rv1, hp, hw⟩ := hw.2
  refine r_getP C fl_RX11_47_10 hob hp (fun _ _ _ => rfl) dX11_lay_1 ?_
  refine r_aload_n C dX11_lay_4 0 rfl ?_
  have hob := hw.1
  obtain ⟨rv2, hp, hw⟩ := hw.2
  refine r_getP C fl_RX11_30_10 hob hp (fun _ _ _ => rfl) dX11_lay_5 ?_
  have hob := hw.1
  obtain ⟨rv3, hp, hw⟩ := hw.2
  refine r_getP C fl_RX11_40_5 hob hp (fun _ _ _ => rfl) dX11_lay_8 ?_
  refine r_aload_n C dX11_lay_11 0 rfl ?_
  have hob := hw.1
  obtain ⟨rv4, hp, hw⟩ := hw.2
  refine r_getP C fl_RX11_9_10 hob hp (fun _ _ _ => rfl) dX11_lay_12 ?_
  refine r_aload_n C dX11_lay_15 0 rfl ?_
  have hob := hw.1
  replace hw := hw.2
  refine r_callV C (As := []) (rest := [.ref (G.1 + rv4), .ref (G.1 + rv3), .ref (G.1 + rv1)]) (c_X11_takeTape G h a0  _ hw) yl_X11_takeTape (gm3 (List.mem_of_getElem? (i := 107) rfl) rfl) (gm3 (List.mem_of_getElem? (i := 109) rfl) rfl) (ci := 10) rfl (by decide) (gsel (List.mem_of_getElem? (i := 1) rfl)) hob (by decide) rfl (Nat.le_of_ble_eq_true rfl) dX11_lay_16 rfl (kI fun hv5 iv6 hw => ?_)
  have hob := hw.1
  replace hw := hw.2
  refine r_callV C (As := [.ref (G.1 + rv3), .ref (G.1 + rv4), .int iv6]) (rest := []) (c_X8_readBytes G hv5 rv1 rv3 rv4 iv6 _ hw) yl_X8_readBytes (gm4 (List.mem_of_getElem? (i := 102) rfl) rfl) (gm4 (List.mem_of_getElem? (i := 103) rfl) rfl) (ci := 7) rfl (by decide) (gm4 (List.mem_of_getElem? (i := 104) rfl) rfl) hob (by decide) rfl (Nat.le_of_ble_eq_true rfl) dX11_lay_19 rfl (kI fun hv7 iv8 hw => ?_)
  refine r_if_ne C dX11_lay_22 27 (by decide) (fun hc => ?_) (fun hc => ?_)
  · replace hw := hw.1 hc
    refine r_aload_n C dX11_lay_27 0 rfl ?_
    have hob := hw.1
    obtain ⟨rv9, hp, hw⟩ := hw.2
    refine r_getP C fl_RX11_30_10 hob hp (fun _ _ _ => rfl) dX11_lay_28 ?_
    have hob := hw.1
    obtain ⟨rv10, hp, hw⟩ := hw.2
    refine r_getP C fl_RX11_132_5 hob hp (fun _ _ _ => rfl) dX11_lay_31 ?_
    refine r_aload_n C dX11_lay_34 0 rfl ?_
    have hob := hw.1
    obtain ⟨rv11, hp, hw⟩ := hw.2
    refine r_getP C fl_RX11_30_10 hob hp (fun _ _ _ => rfl) dX11_lay_35 ?_
    have hob := hw.1
    obtain ⟨rv12, hp, hw⟩ := hw.2
    refine r_getP C fl_RX11_40_5 hob hp (fun _ _ _ => rfl) dX11_lay_38 ?_
    refine r_aload_n C dX11_lay_41 0 rfl ?_
    have hob := hw.1
    obtain ⟨rv13, hp, hw⟩ := hw.2
    refine r_getP C fl_RX11_47_10 hob hp (fun _ _ _ => rfl) dX11_lay_42 ?_
    have hob := hw.1
    replace hw := hw.2
    refine r_callV C (As := [.ref (G.1 + rv12), .ref (G.1 + rv13)]) (rest := []) (c_X8_follow G hv7 rv10 rv12 rv13 _ hw) yl_X8_follow (gm4 (List.mem_of_getElem? (i := 116) rfl) rfl) (gm4 (List.mem_of_getElem? (i := 117) rfl) rfl) (ci := 7) rfl (by decide) (gm4 (List.mem_of_getElem? (i := 118) rfl) rfl) hob (by decide) rfl (Nat.le_of_ble_eq_true rfl) dX11_lay_45 rfl (kV fun hv14  hw => ?_)
    refine r_iconst (v := 1) C dX11_lay_48 (by decide) ?_
    exact r_zret C hr dX11_lay_49 hw.1 hw.2
  · replace hw := hw.2 hc
    refine r_iconst (v := 0) C dX11_lay_25 (by decide) ?_
    exact r_zret C hr dX11_lay_26 hw.1 hw.2
theorem dX11_aground_0 : decode cX11_aground 0 = .ok (.iload_n 1, 1) := by decide +kernel
theorem dX11_aground_1 : decode cX11_aground 1 = .ok (.invokestatic 109, 3) := by decide +kernel
theorem dX11_aground_4 : decode cX11_aground 4 = .ok (.ifCond .ne 5, 3) := by decide +kernel
theorem dX11_aground_7 : decode cX11_aground 7 = .ok (.iconst (-1), 1) := by decide +kernel
theorem dX11_aground_8 : decode cX11_aground 8 = .ok (.ireturn, 1) := by decide +kernel
theorem dX11_aground_9 : decode cX11_aground 9 = .ok (.iconst 0, 1) := by decide +kernel
theorem dX11_aground_10 : decode cX11_aground 10 = .ok (.istore_n 2, 1) := by decide +kernel
theorem dX11_aground_11 : decode cX11_aground 11 = .ok (.iconst 0, 1) := by decide +kernel
theorem dX11_aground_12 : decode cX11_aground 12 = .ok (.istore_n 3, 1) := by decide +kernel
theorem dX11_aground_13 : decode cX11_aground 13 = .ok (.iload_n 3, 1) := by decide +kernel
theorem dX11_aground_14 : decode cX11_aground 14 = .ok (.aload_n 0, 1) := by decide +kernel
theorem dX11_aground_15 : decode cX11_aground 15 = .ok (.getfield 30, 3) := by decide +kernel
theorem dX11_aground_18 : decode cX11_aground 18 = .ok (.getfield 40, 3) := by decide +kernel
theorem dX11_aground_21 : decode cX11_aground 21 = .ok (.getfield 147, 3) := by decide +kernel
theorem dX11_aground_24 : decode cX11_aground 24 = .ok (.if_icmp .ge 42, 3) := by decide +kernel
theorem dX11_aground_27 : decode cX11_aground 27 = .ok (.aload_n 0, 1) := by decide +kernel
theorem dX11_aground_28 : decode cX11_aground 28 = .ok (.getfield 30, 3) := by decide +kernel
theorem dX11_aground_31 : decode cX11_aground 31 = .ok (.getfield 40, 3) := by decide +kernel
theorem dX11_aground_34 : decode cX11_aground 34 = .ok (.iload_n 3, 1) := by decide +kernel
theorem dX11_aground_35 : decode cX11_aground 35 = .ok (.aload_n 0, 1) := by decide +kernel
theorem dX11_aground_36 : decode cX11_aground 36 = .ok (.getfield 30, 3) := by decide +kernel
theorem dX11_aground_39 : decode cX11_aground 39 = .ok (.getfield 132, 3) := by decide +kernel
theorem dX11_aground_42 : decode cX11_aground 42 = .ok (.getfield 150, 3) := by decide +kernel
theorem dX11_aground_45 : decode cX11_aground 45 = .ok (.iload_n 3, 1) := by decide +kernel
theorem dX11_aground_46 : decode cX11_aground 46 = .ok (.laload, 1) := by decide +kernel
theorem dX11_aground_47 : decode cX11_aground 47 = .ok (.iload_n 1, 1) := by decide +kernel
theorem dX11_aground_48 : decode cX11_aground 48 = .ok (.invokevirtual 162, 3) := by decide +kernel
theorem dX11_aground_51 : decode cX11_aground 51 = .ok (.ifCond .ne 9, 3) := by decide +kernel
theorem dX11_aground_54 : decode cX11_aground 54 = .ok (.iload_n 2, 1) := by decide +kernel
theorem dX11_aground_55 : decode cX11_aground 55 = .ok (.iconst 1, 1) := by decide +kernel
theorem dX11_aground_56 : decode cX11_aground 56 = .ok (.iload_n 3, 1) := by decide +kernel
theorem dX11_aground_57 : decode cX11_aground 57 = .ok (.ishl, 1) := by decide +kernel
theorem dX11_aground_58 : decode cX11_aground 58 = .ok (.ior, 1) := by decide +kernel
theorem dX11_aground_59 : decode cX11_aground 59 = .ok (.istore_n 2, 1) := by decide +kernel
theorem dX11_aground_60 : decode cX11_aground 60 = .ok (.iinc 3 1, 3) := by decide +kernel
theorem dX11_aground_63 : decode cX11_aground 63 = .ok (.goto (-50), 3) := by decide +kernel
theorem dX11_aground_66 : decode cX11_aground 66 = .ok (.iload_n 2, 1) := by decide +kernel
theorem dX11_aground_67 : decode cX11_aground 67 = .ok (.ireturn, 1) := by decide +kernel
def wb_X11_aground_60 (K13 : AH → Nat → Int32 → Int32 → Int32 → Prop) (h : AH) (al0 : Nat) (xl1 : Int32) (xl2 : Int32) (xl3 : Int32)  (post : AH → Int32 → Prop) : Prop := ∀ iv1 : Int32, iv1 = xl3 + 1 → (K13 h al0 xl1 xl2 iv1)
set_option maxRecDepth 100000 in
theorem tb_X11_aground_60 {G : GG} {p : Program} {l : Launch} {e : Env} {R : Room} {s : State} {m : MethodId} {args : Array Value} {below : List Frame} {meth : Method} {c : Code} {n0 s0 : Nat} {post : AH → Int32 → Prop} (C : Cx G p R s m args meth c 4 cX11_aground RX11 n0 s0 1 25) (hr : meth.sig.returnType = (some .int)) {K13 : AH → Nat → Int32 → Int32 → Int32 → Prop} (hK13 : ∀ (h : AH) (al0 : Nat) (xl1 : Int32) (xl2 : Int32) (xl3 : Int32), K13 h al0 xl1 xl2 xl3 → AW G p l e R s m args below meth c 4 (QM G (pI post) args s below n0 s0) 13 [(0, .ref (G.1 + al0)), (1, .int xl1), (2, .int xl2), (3, .int xl3)] [] h) {h : AH} {al0 : Nat} {xl1 : Int32} {xl2 : Int32} {xl3 : Int32}  (hw : wb_X11_aground_60 K13 h al0 xl1 xl2 xl3 post) : AW G p l e R s m args below meth c 4 (QM G (pI post) args s below n0 s0) 60 [(0, .ref (G.1 + al0)), (1, .int xl1), (2, .int xl2), (3, .int xl3)] [] h := by
  unfold wb_X11_aground_60 at hw
  obtain ⟨iv1, eiv1⟩ : ∃ q : Int32, q = xl3 + 1 := ⟨_, rfl⟩
  replace hw := hw iv1 eiv1
  refine r_iinc C dX11_aground_60 3 rfl (by rw [eiv1]; rfl) [(3, .int iv1), (0, .ref (G.1 + al0)), (1, .int xl1), (2, .int xl2)] (by decide) rfl ?_
  refine r_goto C dX11_aground_63 13 (by decide) ?_
  refine r_sub [1, 2, 3, 0] rfl ?_
  exact hK13 _ _ _ _ _ hw
def wb_X11_aground_13 (K13 : AH → Nat → Int32 → Int32 → Int32 → Prop) (h : AH) (al0 : Nat) (xl1 : Int32) (xl2 : Int32) (xl3 : Int32)  (post : AH → Int32 → Prop) : Prop := (ob h al0 10) ∧ (∃ rv1, aP h al0 5 = some rv1 ∧ ((ob h rv1 5) ∧ (∃ rv2, aP h rv1 0 = some rv2 ∧ ((ob h rv2 1) ∧ (((aI h rv2 5) ≤ xl3 → (post h xl2)) ∧ (¬ (aI h rv2 5) ≤ xl3 → ((ob h al0 10) ∧ (∃ rv3, aP h al0 5 = some rv3 ∧ ((ob h rv3 5) ∧ (∃ rv4, aP h rv3 0 = some rv4 ∧ ((ob h al0 10) ∧ (∃ rv5, aP h al0 5 = some rv5 ∧ ((ob h rv5 5) ∧ (∃ rv6, aP h rv5 1 = some rv6 ∧ ((ob h rv6 7) ∧ (∃ rv7, aP h rv6 2 = some rv7 ∧ ((ob h rv7 14) ∧ ((vp_in xl3 (aL h rv7)) ∧ ((ob h rv4 1) ∧ wp_X1_carries h rv4 xl3 (aJ h rv7 xl3.toNatClampNeg) xl1 (fun hv8 iv9 => (¬ iv9 = 0 → (wb_X11_aground_60 K13 hv8 al0 xl1 xl2 xl3 post)) ∧ (iv9 = 0 → (∀ iv10 : Int32, iv10 = xl2 ||| ((1 : Int32) <<< (xl3 &&& 31)) → (wb_X11_aground_60 K13 hv8 al0 xl1 iv10 xl3 post)))))))))))))))))))))))
set_option maxRecDepth 100000 in
theorem tb_X11_aground_13 {G : GG} {p : Program} {l : Launch} {e : Env} {R : Room} {s : State} {m : MethodId} {args : Array Value} {below : List Frame} {meth : Method} {c : Code} {n0 s0 : Nat} {post : AH → Int32 → Prop} (C : Cx G p R s m args meth c 4 cX11_aground RX11 n0 s0 1 25) (hr : meth.sig.returnType = (some .int)) {K13 : AH → Nat → Int32 → Int32 → Int32 → Prop} (hK13 : ∀ (h : AH) (al0 : Nat) (xl1 : Int32) (xl2 : Int32) (xl3 : Int32), K13 h al0 xl1 xl2 xl3 → AW G p l e R s m args below meth c 4 (QM G (pI post) args s below n0 s0) 13 [(0, .ref (G.1 + al0)), (1, .int xl1), (2, .int xl2), (3, .int xl3)] [] h) {h : AH} {al0 : Nat} {xl1 : Int32} {xl2 : Int32} {xl3 : Int32}  (hw : wb_X11_aground_13 K13 h al0 xl1 xl2 xl3 post) : AW G p l e R s m args below meth c 4 (QM G (pI post) args s below n0 s0) 13 [(0, .ref (G.1 + al0)), (1, .int xl1), (2, .int xl2), (3, .int xl3)] [] h := by
  unfold wb_X11_aground_13 at hw
  refine r_iload_n C dX11_aground_13 3 rfl ?_
  refine r_aload_n C dX11_aground_14 0 rfl ?_
  have hob := hw.1
  obtain ⟨rv1, hp, hw⟩ := hw.2
  refine r_getP C fl_RX11_30_10 hob hp (fun _ _ _ => rfl) dX11_aground_15 ?_
  have hob := hw.1
  obtain ⟨rv2, hp, hw⟩ := hw.2
  refine r_getP C fl_RX11_40_5 hob hp (fun _ _ _ => rfl) dX11_aground_18 ?_
  refine r_getI C fl_RX11_147_1 hw.1 (fun _ _ _ => rfl) dX11_aground_21 ?_
  replace hw := hw.2
  refine r_icmp_ge C dX11_aground_24 66 (by decide) (fun hc => ?_) (fun hc => ?_)
  · replace hw := hw.1 hc
    refine r_iload_n C dX11_aground_66 2 rfl ?_
    exact r_iret C hr dX11_aground_67 hw
  · replace hw := hw.2 hc
    refine r_aload_n C dX11_aground_27 0 rfl ?_
    have hob := hw.1
    obtain ⟨rv3, hp, hw⟩ := hw.2
    refine r_getP C fl_RX11_30_10 hob hp (fun _ _ _ => rfl) dX11_aground_28 ?_
    have hob := hw.1
    obtain ⟨rv4, hp, hw⟩ := hw.2
    refine r_getP C fl_RX11_40_5 hob hp (fun _ _ _ => rfl) dX11_aground_31 ?_
    refine r_iload_n C dX11_aground_34 3 rfl ?_
    refine r_aload_n C dX11_aground_35 0 rfl ?_
    have hob := hw.1
    obtain ⟨rv5, hp, hw⟩ := hw.2
    refine r_getP C fl_RX11_30_10 hob hp (fun _ _ _ => rfl) dX11_aground_36 ?_
    have hob := hw.1
    obtain ⟨rv6, hp, hw⟩ := hw.2
    refine r_getP C fl_RX11_132_5 hob hp (fun _ _ _ => rfl) dX11_aground_39 ?_
    have hob := hw.1
    obtain ⟨rv7, hp, hw⟩ := hw.2
    refine r_getP C fl_RX11_150_7 hob hp (fun _ _ _ => rfl) dX11_aground_42 ?_
    refine r_iload_n C dX11_aground_45 3 rfl ?_
    refine r_laload C hw.1 hw.2.1 dX11_aground_46 ?_
    replace hw := hw.2.2
    refine r_iload_n C dX11_aground_47 1 rfl ?_
    have hob := hw.1
    replace hw := hw.2
    refine r_callV C (As := [.int xl3, .long (aJ h rv7 xl3.toNatClampNeg), .int xl1]) (rest := []) (c_X1_carries G h rv4 xl3 (aJ h rv7 xl3.toNatClampNeg) xl1 _ hw) yl_X1_carries (gm4 (List.mem_of_getElem? (i := 127) rfl) rfl) (gm4 (List.mem_of_getElem? (i := 128) rfl) rfl) (ci := 1) rfl (by decide) (gm4 (List.mem_of_getElem? (i := 129) rfl) rfl) hob (by decide) rfl (Nat.le_of_ble_eq_true rfl) dX11_aground_48 rfl (kI fun hv8 iv9 hw => ?_)
    refine r_if_ne C dX11_aground_51 60 (by decide) (fun hc => ?_) (fun hc => ?_)
    · replace hw := hw.1 hc
      refine r_sub [0, 1, 2, 3] rfl ?_
      exact tb_X11_aground_60 C hr hK13 hw
    · replace hw := hw.2 hc
      refine r_iload_n C dX11_aground_54 2 rfl ?_
      refine r_iconst (v := 1) C dX11_aground_55 (by decide) ?_
      refine r_iload_n C dX11_aground_56 3 rfl ?_
      refine r_ishl C dX11_aground_57 ?_
      refine r_ior C dX11_aground_58 ?_
      refine r_topi fun iv10 eiv10 => ?_
      replace hw := hw iv10 eiv10
      refine r_istore_n C dX11_aground_59 [(2, .int iv10), (0, .ref (G.1 + al0)), (1, .int xl1), (3, .int xl3)] (by decide) rfl ?_
      refine r_sub [1, 2, 0, 3] rfl ?_
      exact tb_X11_aground_60 C hr hK13 hw
def wl_X11_aground_13  (post : AH → Int32 → Prop) : Nat → AH → Nat → Int32 → Int32 → Int32 → Prop
  | 0 => fun _ _ _ _ _ => False
  | n + 1 => fun h al0 xl1 xl2 xl3 => wb_X11_aground_13  (wl_X11_aground_13  post n) h al0 xl1 xl2 xl3 post
theorem tl_X11_aground_13 {G : GG} {p : Program} {l : Launch} {e : Env} {R : Room} {s : State} {m : MethodId} {args : Array Value} {below : List Frame} {meth : Method} {c : Code} {n0 s0 : Nat} {post : AH → Int32 → Prop} (C : Cx G p R s m args meth c 4 cX11_aground RX11 n0 s0 1 25) (hr : meth.sig.returnType = (some .int))   : ∀ (n : Nat) (h : AH) (al0 : Nat) (xl1 : Int32) (xl2 : Int32) (xl3 : Int32), wl_X11_aground_13  post n h al0 xl1 xl2 xl3 → AW G p l e R s m args below meth c 4 (QM G (pI post) args s below n0 s0) 13 [(0, .ref (G.1 + al0)), (1, .int xl1), (2, .int xl2), (3, .int xl3)] [] h := by
  intro n
  induction n with
  | zero => intro h al0 xl1 xl2 xl3 hw; exact hw.elim
  | succ n ih => intro h al0 xl1 xl2 xl3 hw; exact tb_X11_aground_13 C hr  ih hw
def wp_X11_aground (h : AH) (a0 : Nat) (x1 : Int32) (post : AH → Int32 → Prop) : Prop := wp_X11_isHour h x1 (fun hv1 iv2 => (¬ iv2 = 0 → (∃ n, wl_X11_aground_13  post n hv1 a0 x1 0 0)) ∧ (iv2 = 0 → (post hv1 (-1))))
set_option maxRecDepth 100000 in
theorem c_X11_aground (G : GG) (h : AH) (a0 : Nat) (x1 : Int32) (post : AH → Int32 → Prop) (hw : wp_X11_aground h a0 x1 post) : MC G yX11_aground cX11_aground 4 (some .int) 1 25 h [.ref (G.1 + a0), .int x1] (pI post) := by
  refine MC.of (lv := [(0, .ref (G.1 + a0)), (1, .int x1)]) (by decide) (Nat.le_of_ble_eq_true rfl) rfl fun p l e R s m args below meth c C hr hnm => ?_
  unfold wp_X11_aground at hw
  refine r_iload_n C dX11_aground_0 1 rfl ?_
  refine r_callS C (As := [.int x1]) (rest := []) (c_X11_isHour G h x1 _ hw) yl_X11_isHour (gm4 (List.mem_of_getElem? (i := 90) rfl) rfl) (gm4 (List.mem_of_getElem? (i := 91) rfl) rfl) (by decide) rfl (Nat.le_of_ble_eq_true rfl) dX11_aground_1 rfl (kI fun hv1 iv2 hw => ?_)
  refine r_if_ne C dX11_aground_4 9 (by decide) (fun hc => ?_) (fun hc => ?_)
  · replace hw := hw.1 hc
    refine r_iconst (v := 0) C dX11_aground_9 (by decide) ?_
    refine r_istore_n C dX11_aground_10 [(2, .int 0), (0, .ref (G.1 + a0)), (1, .int x1)] (by decide) rfl ?_
    refine r_iconst (v := 0) C dX11_aground_11 (by decide) ?_
    refine r_istore_n C dX11_aground_12 [(3, .int 0), (2, .int 0), (0, .ref (G.1 + a0)), (1, .int x1)] (by decide) rfl ?_
    refine r_sub [2, 3, 1, 0] rfl ?_
    obtain ⟨n, hw⟩ := hw
    exact tl_X11_aground_13 C hr  n _ _ _ _ _ hw
  · replace hw := hw.2 hc
    refine r_iconst (v := (-1)) C dX11_aground_7 (by decide) ?_
    exact r_iret C hr dX11_aground_8 hw
theorem dX11_breaks_0 : decode cX11_breaks 0 = .ok (.aload_n 0, 1) := by decide +kernel
theorem dX11_breaks_1 : decode cX11_breaks 1 = .ok (.iload_n 1, 1) := by decide +kernel
theorem dX11_breaks_2 : decode cX11_breaks 2 = .ok (.invokevirtual 166, 3) := by decide +kernel
theorem dX11_breaks_5 : decode cX11_breaks 5 = .ok (.istore_n 2, 1) := by decide +kernel
theorem dX11_breaks_6 : decode cX11_breaks 6 = .ok (.iload_n 2, 1) := by decide +kernel
theorem dX11_breaks_7 : decode cX11_breaks 7 = .ok (.ifCond .ge 5, 3) := by decide +kernel
theorem dX11_breaks_10 : decode cX11_breaks 10 = .ok (.iconst (-1), 1) := by decide +kernel
theorem dX11_breaks_11 : decode cX11_breaks 11 = .ok (.ireturn, 1) := by decide +kernel
theorem dX11_breaks_12 : decode cX11_breaks 12 = .ok (.iconst 0, 1) := by decide +kernel
theorem dX11_breaks_13 : decode cX11_breaks 13 = .ok (.istore_n 3, 1) := by decide +kernel
theorem dX11_breaks_14 : decode cX11_breaks 14 = .ok (.iconst 0, 1) := by decide +kernel
theorem dX11_breaks_15 : decode cX11_breaks 15 = .ok (.istore 4, 2) := by decide +kernel
theorem dX11_breaks_17 : decode cX11_breaks 17 = .ok (.iload 4, 2) := by decide +kernel
theorem dX11_breaks_19 : decode cX11_breaks 19 = .ok (.aload_n 0, 1) := by decide +kernel
theorem dX11_breaks_20 : decode cX11_breaks 20 = .ok (.getfield 30, 3) := by decide +kernel
theorem dX11_breaks_23 : decode cX11_breaks 23 = .ok (.getfield 40, 3) := by decide +kernel
theorem dX11_breaks_26 : decode cX11_breaks 26 = .ok (.getfield 147, 3) := by decide +kernel
theorem dX11_breaks_29 : decode cX11_breaks 29 = .ok (.if_icmp .ge 51, 3) := by decide +kernel
theorem dX11_breaks_32 : decode cX11_breaks 32 = .ok (.iload_n 2, 1) := by decide +kernel
theorem dX11_breaks_33 : decode cX11_breaks 33 = .ok (.iload 4, 2) := by decide +kernel
theorem dX11_breaks_35 : decode cX11_breaks 35 = .ok (.ishr, 1) := by decide +kernel
theorem dX11_breaks_36 : decode cX11_breaks 36 = .ok (.iconst 1, 1) := by decide +kernel
theorem dX11_breaks_37 : decode cX11_breaks 37 = .ok (.iand, 1) := by decide +kernel
theorem dX11_breaks_38 : decode cX11_breaks 38 = .ok (.ifCond .eq 36, 3) := by decide +kernel
theorem dX11_breaks_41 : decode cX11_breaks 41 = .ok (.aload_n 0, 1) := by decide +kernel
theorem dX11_breaks_42 : decode cX11_breaks 42 = .ok (.getfield 30, 3) := by decide +kernel
theorem dX11_breaks_45 : decode cX11_breaks 45 = .ok (.getfield 40, 3) := by decide +kernel
theorem dX11_breaks_48 : decode cX11_breaks 48 = .ok (.aload_n 0, 1) := by decide +kernel
theorem dX11_breaks_49 : decode cX11_breaks 49 = .ok (.getfield 30, 3) := by decide +kernel
theorem dX11_breaks_52 : decode cX11_breaks 52 = .ok (.getfield 132, 3) := by decide +kernel
theorem dX11_breaks_55 : decode cX11_breaks 55 = .ok (.getfield 150, 3) := by decide +kernel
theorem dX11_breaks_58 : decode cX11_breaks 58 = .ok (.iload 4, 2) := by decide +kernel
theorem dX11_breaks_60 : decode cX11_breaks 60 = .ok (.laload, 1) := by decide +kernel
theorem dX11_breaks_61 : decode cX11_breaks 61 = .ok (.invokevirtual 170, 3) := by decide +kernel
theorem dX11_breaks_64 : decode cX11_breaks 64 = .ok (.ifCond .eq 10, 3) := by decide +kernel
theorem dX11_breaks_67 : decode cX11_breaks 67 = .ok (.iload_n 3, 1) := by decide +kernel
theorem dX11_breaks_68 : decode cX11_breaks 68 = .ok (.iconst 1, 1) := by decide +kernel
theorem dX11_breaks_69 : decode cX11_breaks 69 = .ok (.iload 4, 2) := by decide +kernel
theorem dX11_breaks_71 : decode cX11_breaks 71 = .ok (.ishl, 1) := by decide +kernel
theorem dX11_breaks_72 : decode cX11_breaks 72 = .ok (.ior, 1) := by decide +kernel
theorem dX11_breaks_73 : decode cX11_breaks 73 = .ok (.istore_n 3, 1) := by decide +kernel
theorem dX11_breaks_74 : decode cX11_breaks 74 = .ok (.iinc 4 1, 3) := by decide +kernel
theorem dX11_breaks_77 : decode cX11_breaks 77 = .ok (.goto (-60), 3) := by decide +kernel
theorem dX11_breaks_80 : decode cX11_breaks 80 = .ok (.iload_n 3, 1) := by decide +kernel
theorem dX11_breaks_81 : decode cX11_breaks 81 = .ok (.ireturn, 1) := by decide +kernel
def wb_X11_breaks_74 (K17 : AH → Nat → Int32 → Int32 → Int32 → Prop) (h : AH) (al0 : Nat) (xl2 : Int32) (xl3 : Int32) (xl4 : Int32)  (post : AH → Int32 → Prop) : Prop := ∀ iv1 : Int32, iv1 = xl4 + 1 → (K17 h al0 xl2 xl3 iv1)
set_option maxRecDepth 100000 in
theorem tb_X11_breaks_74 {G : GG} {p : Program} {l : Launch} {e : Env} {R : Room} {s : State} {m : MethodId} {args : Array Value} {below : List Frame} {meth : Method} {c : Code} {n0 s0 : Nat} {post : AH → Int32 → Prop} (C : Cx G p R s m args meth c 5 cX11_breaks RX11 n0 s0 2 48) (hr : meth.sig.returnType = (some .int)) {K17 : AH → Nat → Int32 → Int32 → Int32 → Prop} (hK17 : ∀ (h : AH) (al0 : Nat) (xl2 : Int32) (xl3 : Int32) (xl4 : Int32), K17 h al0 xl2 xl3 xl4 → AW G p l e R s m args below meth c 5 (QM G (pI post) args s below n0 s0) 17 [(0, .ref (G.1 + al0)), (2, .int xl2), (3, .int xl3), (4, .int xl4)] [] h) {h : AH} {al0 : Nat} {xl2 : Int32} {xl3 : Int32} {xl4 : Int32}  (hw : wb_X11_breaks_74 K17 h al0 xl2 xl3 xl4 post) : AW G p l e R s m args below meth c 5 (QM G (pI post) args s below n0 s0) 74 [(0, .ref (G.1 + al0)), (2, .int xl2), (3, .int xl3), (4, .int xl4)] [] h := by
  unfold wb_X11_breaks_74 at hw
  obtain ⟨iv1, eiv1⟩ : ∃ q : Int32, q = xl4 + 1 := ⟨_, rfl⟩
  replace hw := hw iv1 eiv1
  refine r_iinc C dX11_breaks_74 3 rfl (by rw [eiv1]; rfl) [(4, .int iv1), (0, .ref (G.1 + al0)), (2, .int xl2), (3, .int xl3)] (by decide) rfl ?_
  refine r_goto C dX11_breaks_77 17 (by decide) ?_
  refine r_sub [1, 2, 3, 0] rfl ?_
  exact hK17 _ _ _ _ _ hw
def wb_X11_breaks_17 (K17 : AH → Nat → Int32 → Int32 → Int32 → Prop) (h : AH) (al0 : Nat) (xl2 : Int32) (xl3 : Int32) (xl4 : Int32)  (post : AH → Int32 → Prop) : Prop := (ob h al0 10) ∧ (∃ rv1, aP h al0 5 = some rv1 ∧ ((ob h rv1 5) ∧ (∃ rv2, aP h rv1 0 = some rv2 ∧ ((ob h rv2 1) ∧ (((aI h rv2 5) ≤ xl4 → (post h xl3)) ∧ (¬ (aI h rv2 5) ≤ xl4 → ((((xl2 >>> (xl4 &&& 31)) &&& (1 : Int32)) = 0 → (wb_X11_breaks_74 K17 h al0 xl2 xl3 xl4 post)) ∧ (¬ ((xl2 >>> (xl4 &&& 31)) &&& (1 : Int32)) = 0 → ((ob h al0 10) ∧ (∃ rv3, aP h al0 5 = some rv3 ∧ ((ob h rv3 5) ∧ (∃ rv4, aP h rv3 0 = some rv4 ∧ ((ob h al0 10) ∧ (∃ rv5, aP h al0 5 = some rv5 ∧ ((ob h rv5 5) ∧ (∃ rv6, aP h rv5 1 = some rv6 ∧ ((ob h rv6 7) ∧ (∃ rv7, aP h rv6 2 = some rv7 ∧ ((ob h rv7 14) ∧ ((vp_in xl4 (aL h rv7)) ∧ ((ob h rv4 1) ∧ wp_X1_isUneven h rv4 (aJ h rv7 xl4.toNatClampNeg) (fun hv8 iv9 => (iv9 = 0 → (wb_X11_breaks_74 K17 hv8 al0 xl2 xl3 xl4 post)) ∧ (¬ iv9 = 0 → (∀ iv10 : Int32, iv10 = xl3 ||| ((1 : Int32) <<< (xl4 &&& 31)) → (wb_X11_breaks_74 K17 hv8 al0 xl2 iv10 xl4 post)))))))))))))))))))))))))
set_option maxRecDepth 100000 in
theorem tb_X11_breaks_17 {G : GG} {p : Program} {l : Launch} {e : Env} {R : Room} {s : State} {m : MethodId} {args : Array Value} {below : List Frame} {meth : Method} {c : Code} {n0 s0 : Nat} {post : AH → Int32 → Prop} (C : Cx G p R s m args meth c 5 cX11_breaks RX11 n0 s0 2 48) (hr : meth.sig.returnType = (some .int)) {K17 : AH → Nat → Int32 → Int32 → Int32 → Prop} (hK17 : ∀ (h : AH) (al0 : Nat) (xl2 : Int32) (xl3 : Int32) (xl4 : Int32), K17 h al0 xl2 xl3 xl4 → AW G p l e R s m args below meth c 5 (QM G (pI post) args s below n0 s0) 17 [(0, .ref (G.1 + al0)), (2, .int xl2), (3, .int xl3), (4, .int xl4)] [] h) {h : AH} {al0 : Nat} {xl2 : Int32} {xl3 : Int32} {xl4 : Int32}  (hw : wb_X11_breaks_17 K17 h al0 xl2 xl3 xl4 post) : AW G p l e R s m args below meth c 5 (QM G (pI post) args s below n0 s0) 17 [(0, .ref (G.1 + al0)), (2, .int xl2), (3, .int xl3), (4, .int xl4)] [] h := by
  unfold wb_X11_breaks_17 at hw
  refine r_iload C dX11_breaks_17 3 rfl ?_
  refine r_aload_n C dX11_breaks_19 0 rfl ?_
  have hob := hw.1
  obtain ⟨rv1, hp, hw⟩ := hw.2
  refine r_getP C fl_RX11_30_10 hob hp (fun _ _ _ => rfl) dX11_breaks_20 ?_
  have hob := hw.1
  obtain ⟨rv2, hp, hw⟩ := hw.2
  refine r_getP C fl_RX11_40_5 hob hp (fun _ _ _ => rfl) dX11_breaks_23 ?_
  refine r_getI C fl_RX11_147_1 hw.1 (fun _ _ _ => rfl) dX11_breaks_26 ?_
  replace hw := hw.2
  refine r_icmp_ge C dX11_breaks_29 80 (by decide) (fun hc => ?_) (fun hc => ?_)
  · replace hw := hw.1 hc
    refine r_iload_n C dX11_breaks_80 2 rfl ?_
    exact r_iret C hr dX11_breaks_81 hw
  · replace hw := hw.2 hc
    refine r_iload_n C dX11_breaks_32 1 rfl ?_
    refine r_iload C dX11_breaks_33 3 rfl ?_
    refine r_ishr C dX11_breaks_35 ?_
    refine r_iconst (v := 1) C dX11_breaks_36 (by decide) ?_
    refine r_iand C dX11_breaks_37 ?_
    refine r_if_eq C dX11_breaks_38 74 (by decide) (fun hc => ?_) (fun hc => ?_)
    · replace hw := hw.1 hc
      refine r_sub [0, 1, 2, 3] rfl ?_
      exact tb_X11_breaks_74 C hr hK17 hw
    · replace hw := hw.2 hc
      refine r_aload_n C dX11_breaks_41 0 rfl ?_
      have hob := hw.1
      obtain ⟨rv3, hp, hw⟩ := hw.2
      refine r_getP C fl_RX11_30_10 hob hp (fun _ _ _ => rfl) dX11_breaks_42 ?_
      have hob := hw.1
      obtain ⟨rv4, hp, hw⟩ := hw.2
      refine r_getP C fl_RX11_40_5 hob hp (fun _ _ _ => rfl) dX11_breaks_45 ?_
      refine r_aload_n C dX11_breaks_48 0 rfl ?_
      have hob := hw.1
      obtain ⟨rv5, hp, hw⟩ := hw.2
      refine r_getP C fl_RX11_30_10 hob hp (fun _ _ _ => rfl) dX11_breaks_49 ?_
      have hob := hw.1
      obtain ⟨rv6, hp, hw⟩ := hw.2
      refine r_getP C fl_RX11_132_5 hob hp (fun _ _ _ => rfl) dX11_breaks_52 ?_
      have hob := hw.1
      obtain ⟨rv7, hp, hw⟩ := hw.2
      refine r_getP C fl_RX11_150_7 hob hp (fun _ _ _ => rfl) dX11_breaks_55 ?_
      refine r_iload C dX11_breaks_58 3 rfl ?_
      refine r_laload C hw.1 hw.2.1 dX11_breaks_60 ?_
      replace hw := hw.2.2
      have hob := hw.1
      replace hw := hw.2
      refine r_callV C (As := [.long (aJ h rv7 xl4.toNatClampNeg)]) (rest := []) (c_X1_isUneven G h rv4 (aJ h rv7 xl4.toNatClampNeg) _ hw) yl_X1_isUneven (gm4 (List.mem_of_getElem? (i := 137) rfl) rfl) (gm4 (List.mem_of_getElem? (i := 138) rfl) rfl) (ci := 1) rfl (by decide) (gm4 (List.mem_of_getElem? (i := 139) rfl) rfl) hob (by decide) rfl (Nat.le_of_ble_eq_true rfl) dX11_breaks_61 rfl (kI fun hv8 iv9 hw => ?_)
      refine r_if_eq C dX11_breaks_64 74 (by decide) (fun hc => ?_) (fun hc => ?_)
      · replace hw := hw.1 hc
        refine r_sub [0, 1, 2, 3] rfl ?_
        exact tb_X11_breaks_74 C hr hK17 hw
      · replace hw := hw.2 hc
        refine r_iload_n C dX11_breaks_67 2 rfl ?_
        refine r_iconst (v := 1) C dX11_breaks_68 (by decide) ?_
        refine r_iload C dX11_breaks_69 3 rfl ?_
        refine r_ishl C dX11_breaks_71 ?_
        refine r_ior C dX11_breaks_72 ?_
        refine r_topi fun iv10 eiv10 => ?_
        replace hw := hw iv10 eiv10
        refine r_istore_n C dX11_breaks_73 [(3, .int iv10), (0, .ref (G.1 + al0)), (2, .int xl2), (4, .int xl4)] (by decide) rfl ?_
        refine r_sub [1, 2, 0, 3] rfl ?_
        exact tb_X11_breaks_74 C hr hK17 hw
def wl_X11_breaks_17  (post : AH → Int32 → Prop) : Nat → AH → Nat → Int32 → Int32 → Int32 → Prop
  | 0 => fun _ _ _ _ _ => False
  | n + 1 => fun h al0 xl2 xl3 xl4 => wb_X11_breaks_17  (wl_X11_breaks_17  post n) h al0 xl2 xl3 xl4 post
theorem tl_X11_breaks_17 {G : GG} {p : Program} {l : Launch} {e : Env} {R : Room} {s : State} {m : MethodId} {args : Array Value} {below : List Frame} {meth : Method} {c : Code} {n0 s0 : Nat} {post : AH → Int32 → Prop} (C : Cx G p R s m args meth c 5 cX11_breaks RX11 n0 s0 2 48) (hr : meth.sig.returnType = (some .int))   : ∀ (n : Nat) (h : AH) (al0 : Nat) (xl2 : Int32) (xl3 : Int32) (xl4 : Int32), wl_X11_breaks_17  post n h al0 xl2 xl3 xl4 → AW G p l e R s m args below meth c 5 (QM G (pI post) args s below n0 s0) 17 [(0, .ref (G.1 + al0)), (2, .int xl2), (3, .int xl3), (4, .int xl4)] [] h := by
  intro n
  induction n with
  | zero => intro h al0 xl2 xl3 xl4 hw; exact hw.elim
  | succ n ih => intro h al0 xl2 xl3 xl4 hw; exact tb_X11_breaks_17 C hr  ih hw
def wp_X11_breaks (h : AH) (a0 : Nat) (x1 : Int32) (post : AH → Int32 → Prop) : Prop := (ob h a0 10) ∧ wp_X11_aground h a0 x1 (fun hv1 iv2 => (0 ≤ iv2 → (∃ n, wl_X11_breaks_17  post n hv1 a0 iv2 0 0)) ∧ (¬ 0 ≤ iv2 → (post hv1 (-1))))
set_option maxRecDepth 100000 in
theorem c_X11_breaks (G : GG) (h : AH) (a0 : Nat) (x1 : Int32) (post : AH → Int32 → Prop) (hw : wp_X11_breaks h a0 x1 post) : MC G yX11_breaks cX11_breaks 5 (some .int) 2 48 h [.ref (G.1 + a0), .int x1] (pI post) := by
  refine MC.of (lv := [(0, .ref (G.1 + a0)), (1, .int x1)]) (by decide) (Nat.le_of_ble_eq_true rfl) rfl fun p l e R s m args below meth c C hr hnm => ?_
  unfold wp_X11_breaks at hw
  refine r_aload_n C dX11_breaks_0 0 rfl ?_
  refine r_iload_n C dX11_breaks_1 1 rfl ?_
  have hob := hw.1
  replace hw := hw.2
  refine r_callV C (As := [.int x1]) (rest := []) (c_X11_aground G h a0 x1 _ hw) yl_X11_aground (gm4 (List.mem_of_getElem? (i := 136) rfl) rfl) (gm4 (List.mem_of_getElem? (i := 124) rfl) rfl) (ci := 10) rfl (by decide) (gm4 (List.mem_of_getElem? (i := 125) rfl) rfl) hob (by decide) rfl (Nat.le_of_ble_eq_true rfl) dX11_breaks_2 rfl (kI fun hv1 iv2 hw => ?_)
  refine r_istore_n C dX11_breaks_5 [(2, .int iv2), (0, .ref (G.1 + a0)), (1, .int x1)] (by decide) rfl ?_
  refine r_iload_n C dX11_breaks_6 0 rfl ?_
  refine r_if_ge C dX11_breaks_7 12 (by decide) (fun hc => ?_) (fun hc => ?_)
  · replace hw := hw.1 hc
    refine r_iconst (v := 0) C dX11_breaks_12 (by decide) ?_
    refine r_istore_n C dX11_breaks_13 [(3, .int 0), (2, .int iv2), (0, .ref (G.1 + a0)), (1, .int x1)] (by decide) rfl ?_
    refine r_iconst (v := 0) C dX11_breaks_14 (by decide) ?_
    refine r_istore C dX11_breaks_15 [(4, .int 0), (3, .int 0), (2, .int iv2), (0, .ref (G.1 + a0)), (1, .int x1)] (by decide) rfl ?_
    refine r_sub [3, 2, 1, 0] rfl ?_
    obtain ⟨n, hw⟩ := hw
    exact tl_X11_breaks_17 C hr  n _ _ _ _ _ hw
  · replace hw := hw.2 hc
    refine r_iconst (v := (-1)) C dX11_breaks_10 (by decide) ?_
    exact r_iret C hr dX11_breaks_11 hw
theorem dX11_isRaft_0 : decode cX11_isRaft 0 = .ok (.iload_n 1, 1) := by decide +kernel
theorem dX11_isRaft_1 : decode cX11_isRaft 1 = .ok (.ifCond .lt 21, 3) := by decide +kernel
theorem dX11_isRaft_4 : decode cX11_isRaft 4 = .ok (.iload_n 1, 1) := by decide +kernel
theorem dX11_isRaft_5 : decode cX11_isRaft 5 = .ok (.aload_n 0, 1) := by decide +kernel
theorem dX11_isRaft_6 : decode cX11_isRaft 6 = .ok (.getfield 30, 3) := by decide +kernel
theorem dX11_isRaft_9 : decode cX11_isRaft 9 = .ok (.getfield 40, 3) := by decide +kernel
theorem dX11_isRaft_12 : decode cX11_isRaft 12 = .ok (.getfield 147, 3) := by decide +kernel
theorem dX11_isRaft_15 : decode cX11_isRaft 15 = .ok (.if_icmp .ge 7, 3) := by decide +kernel
theorem dX11_isRaft_18 : decode cX11_isRaft 18 = .ok (.iconst 1, 1) := by decide +kernel
theorem dX11_isRaft_19 : decode cX11_isRaft 19 = .ok (.goto 4, 3) := by decide +kernel
theorem dX11_isRaft_22 : decode cX11_isRaft 22 = .ok (.iconst 0, 1) := by decide +kernel
theorem dX11_isRaft_23 : decode cX11_isRaft 23 = .ok (.ireturn, 1) := by decide +kernel
def wp_X11_isRaft (h : AH) (a0 : Nat) (x1 : Int32) (post : AH → Int32 → Prop) : Prop := (x1 < 0 → (((0 : Int32) = 0 ∨ (0 : Int32) = 1) ∧ post h 0)) ∧ (¬ x1 < 0 → ((ob h a0 10) ∧ (∃ rv1, aP h a0 5 = some rv1 ∧ ((ob h rv1 5) ∧ (∃ rv2, aP h rv1 0 = some rv2 ∧ ((ob h rv2 1) ∧ (((aI h rv2 5) ≤ x1 → (((0 : Int32) = 0 ∨ (0 : Int32) = 1) ∧ post h 0)) ∧ (¬ (aI h rv2 5) ≤ x1 → (((1 : Int32) = 0 ∨ (1 : Int32) = 1) ∧ post h 1)))))))))
set_option maxRecDepth 100000 in
theorem c_X11_isRaft (G : GG) (h : AH) (a0 : Nat) (x1 : Int32) (post : AH → Int32 → Prop) (hw : wp_X11_isRaft h a0 x1 post) : MC G yX11_isRaft cX11_isRaft 2 (some .boolean) 0 0 h [.ref (G.1 + a0), .int x1] (pI post) := by
  refine MC.of (lv := [(0, .ref (G.1 + a0)), (1, .int x1)]) (by decide) (Nat.le_of_ble_eq_true rfl) rfl fun p l e R s m args below meth c C hr hnm => ?_
  unfold wp_X11_isRaft at hw
  refine r_iload_n C dX11_isRaft_0 1 rfl ?_
  refine r_if_lt C dX11_isRaft_1 22 (by decide) (fun hc => ?_) (fun hc => ?_)
  · replace hw := hw.1 hc
    refine r_iconst (v := 0) C dX11_isRaft_22 (by decide) ?_
    exact r_zret C hr dX11_isRaft_23 hw.1 hw.2
  · replace hw := hw.2 hc
    refine r_iload_n C dX11_isRaft_4 1 rfl ?_
    refine r_aload_n C dX11_isRaft_5 0 rfl ?_
    have hob := hw.1
    obtain ⟨rv1, hp, hw⟩ := hw.2
    refine r_getP C fl_RX11_30_10 hob hp (fun _ _ _ => rfl) dX11_isRaft_6 ?_
    have hob := hw.1
    obtain ⟨rv2, hp, hw⟩ := hw.2
    refine r_getP C fl_RX11_40_5 hob hp (fun _ _ _ => rfl) dX11_isRaft_9 ?_
    refine r_getI C fl_RX11_147_1 hw.1 (fun _ _ _ => rfl) dX11_isRaft_12 ?_
    replace hw := hw.2
    refine r_icmp_ge C dX11_isRaft_15 22 (by decide) (fun hc => ?_) (fun hc => ?_)
    · replace hw := hw.1 hc
      refine r_iconst (v := 0) C dX11_isRaft_22 (by decide) ?_
      exact r_zret C hr dX11_isRaft_23 hw.1 hw.2
    · replace hw := hw.2 hc
      refine r_iconst (v := 1) C dX11_isRaft_18 (by decide) ?_
      refine r_goto C dX11_isRaft_19 23 (by decide) ?_
      exact r_zret C hr dX11_isRaft_23 hw.1 hw.2
theorem dX11_floats_0 : decode cX11_floats 0 = .ok (.aload_n 0, 1) := by decide +kernel
theorem dX11_floats_1 : decode cX11_floats 1 = .ok (.iload_n 1, 1) := by decide +kernel
theorem dX11_floats_2 : decode cX11_floats 2 = .ok (.invokevirtual 126, 3) := by decide +kernel
theorem dX11_floats_5 : decode cX11_floats 5 = .ok (.ifCond .ne 5, 3) := by decide +kernel
theorem dX11_floats_8 : decode cX11_floats 8 = .ok (.iconst (-1), 1) := by decide +kernel
theorem dX11_floats_9 : decode cX11_floats 9 = .ok (.ireturn, 1) := by decide +kernel
theorem dX11_floats_10 : decode cX11_floats 10 = .ok (.aload_n 0, 1) := by decide +kernel
theorem dX11_floats_11 : decode cX11_floats 11 = .ok (.getfield 30, 3) := by decide +kernel
theorem dX11_floats_14 : decode cX11_floats 14 = .ok (.getfield 40, 3) := by decide +kernel
theorem dX11_floats_17 : decode cX11_floats 17 = .ok (.iload_n 1, 1) := by decide +kernel
theorem dX11_floats_18 : decode cX11_floats 18 = .ok (.aload_n 0, 1) := by decide +kernel
theorem dX11_floats_19 : decode cX11_floats 19 = .ok (.getfield 30, 3) := by decide +kernel
theorem dX11_floats_22 : decode cX11_floats 22 = .ok (.getfield 132, 3) := by decide +kernel
theorem dX11_floats_25 : decode cX11_floats 25 = .ok (.getfield 150, 3) := by decide +kernel
theorem dX11_floats_28 : decode cX11_floats 28 = .ok (.iload_n 1, 1) := by decide +kernel
theorem dX11_floats_29 : decode cX11_floats 29 = .ok (.laload, 1) := by decide +kernel
theorem dX11_floats_30 : decode cX11_floats 30 = .ok (.invokevirtual 174, 3) := by decide +kernel
theorem dX11_floats_33 : decode cX11_floats 33 = .ok (.ireturn, 1) := by decide +kernel
def wp_X11_floats (h : AH) (a0 : Nat) (x1 : Int32) (post : AH → Int32 → Prop) : Prop := (ob h a0 10) ∧ wp_X11_isRaft h a0 x1 (fun hv1 iv2 => (¬ iv2 = 0 → ((ob hv1 a0 10) ∧ (∃ rv3, aP hv1 a0 5 = some rv3 ∧ ((ob hv1 rv3 5) ∧ (∃ rv4, aP hv1 rv3 0 = some rv4 ∧ ((ob hv1 a0 10) ∧ (∃ rv5, aP hv1 a0 5 = some rv5 ∧ ((ob hv1 rv5 5) ∧ (∃ rv6, aP hv1 rv5 1 = some rv6 ∧ ((ob hv1 rv6 7) ∧ (∃ rv7, aP hv1 rv6 2 = some rv7 ∧ ((ob hv1 rv7 14) ∧ ((vp_in x1 (aL hv1 rv7)) ∧ ((ob hv1 rv4 1) ∧ wp_X1_hoursCarrying hv1 rv4 x1 (aJ hv1 rv7 x1.toNatClampNeg) (fun hv8 iv9 => post hv8 iv9))))))))))))))) ∧ (iv2 = 0 → (post hv1 (-1))))
set_option maxRecDepth 100000 in
theorem c_X11_floats (G : GG) (h : AH) (a0 : Nat) (x1 : Int32) (post : AH → Int32 → Prop) (hw : wp_X11_floats h a0 x1 post) : MC G yX11_floats cX11_floats 2 (some .int) 2 50 h [.ref (G.1 + a0), .int x1] (pI post) := by
  refine MC.of (lv := [(0, .ref (G.1 + a0)), (1, .int x1)]) (by decide) (Nat.le_of_ble_eq_true rfl) rfl fun p l e R s m args below meth c C hr hnm => ?_
  unfold wp_X11_floats at hw
  refine r_aload_n C dX11_floats_0 0 rfl ?_
  refine r_iload_n C dX11_floats_1 1 rfl ?_
  have hob := hw.1
  replace hw := hw.2
  refine r_callV C (As := [.int x1]) (rest := []) (c_X11_isRaft G h a0 x1 _ hw) yl_X11_isRaft (gm4 (List.mem_of_getElem? (i := 145) rfl) rfl) (gm4 (List.mem_of_getElem? (i := 147) rfl) rfl) (ci := 10) rfl (by decide) (gsel (List.mem_of_getElem? (i := 16) rfl)) hob (by decide) rfl (Nat.le_of_ble_eq_true rfl) dX11_floats_2 rfl (kI fun hv1 iv2 hw => ?_)
  refine r_if_ne C dX11_floats_5 10 (by decide) (fun hc => ?_) (fun hc => ?_)
  · replace hw := hw.1 hc
    refine r_aload_n C dX11_floats_10 0 rfl ?_
    have hob := hw.1
    obtain ⟨rv3, hp, hw⟩ := hw.2
    refine r_getP C fl_RX11_30_10 hob hp (fun _ _ _ => rfl) dX11_floats_11 ?_
    have hob := hw.1
    obtain ⟨rv4, hp, hw⟩ := hw.2
    refine r_getP C fl_RX11_40_5 hob hp (fun _ _ _ => rfl) dX11_floats_14 ?_
    refine r_iload_n C dX11_floats_17 1 rfl ?_
    refine r_aload_n C dX11_floats_18 0 rfl ?_
    have hob := hw.1
    obtain ⟨rv5, hp, hw⟩ := hw.2
    refine r_getP C fl_RX11_30_10 hob hp (fun _ _ _ => rfl) dX11_floats_19 ?_
    have hob := hw.1
    obtain ⟨rv6, hp, hw⟩ := hw.2
    refine r_getP C fl_RX11_132_5 hob hp (fun _ _ _ => rfl) dX11_floats_22 ?_
    have hob := hw.1
    obtain ⟨rv7, hp, hw⟩ := hw.2
    refine r_getP C fl_RX11_150_7 hob hp (fun _ _ _ => rfl) dX11_floats_25 ?_
    refine r_iload_n C dX11_floats_28 1 rfl ?_
    refine r_laload C hw.1 hw.2.1 dX11_floats_29 ?_
    replace hw := hw.2.2
    have hob := hw.1
    replace hw := hw.2
    refine r_callV C (As := [.int x1, .long (aJ hv1 rv7 x1.toNatClampNeg)]) (rest := []) (c_X1_hoursCarrying G hv1 rv4 x1 (aJ hv1 rv7 x1.toNatClampNeg) _ hw) yl_X1_hoursCarrying (gm4 (List.mem_of_getElem? (i := 149) rfl) rfl) (gm4 (List.mem_of_getElem? (i := 150) rfl) rfl) (ci := 1) rfl (by decide) (gm4 (List.mem_of_getElem? (i := 151) rfl) rfl) hob (by decide) rfl (Nat.le_of_ble_eq_true rfl) dX11_floats_30 rfl (kI fun hv8 iv9 hw => ?_)
    exact r_iret C hr dX11_floats_33 hw
  · replace hw := hw.2 hc
    refine r_iconst (v := (-1)) C dX11_floats_8 (by decide) ?_
    exact r_iret C hr dX11_floats_9 hw
theorem dX11_gap_0 : decode cX11_gap 0 = .ok (.aload_n 0, 1) := by decide +kernel
theorem dX11_gap_1 : decode cX11_gap 1 = .ok (.iload_n 1, 1) := by decide +kernel
theorem dX11_gap_2 : decode cX11_gap 2 = .ok (.invokevirtual 126, 3) := by decide +kernel
theorem dX11_gap_5 : decode cX11_gap 5 = .ok (.ifCond .eq 16, 3) := by decide +kernel
theorem dX11_gap_8 : decode cX11_gap 8 = .ok (.aload_n 0, 1) := by decide +kernel
theorem dX11_gap_9 : decode cX11_gap 9 = .ok (.iload_n 2, 1) := by decide +kernel
theorem dX11_gap_10 : decode cX11_gap 10 = .ok (.invokevirtual 126, 3) := by decide +kernel
theorem dX11_gap_13 : decode cX11_gap 13 = .ok (.ifCond .eq 8, 3) := by decide +kernel
theorem dX11_gap_16 : decode cX11_gap 16 = .ok (.iload_n 1, 1) := by decide +kernel
theorem dX11_gap_17 : decode cX11_gap 17 = .ok (.iload_n 2, 1) := by decide +kernel
theorem dX11_gap_18 : decode cX11_gap 18 = .ok (.if_icmp .ne 5, 3) := by decide +kernel
theorem dX11_gap_21 : decode cX11_gap 21 = .ok (.iconst (-1), 1) := by decide +kernel
theorem dX11_gap_22 : decode cX11_gap 22 = .ok (.ireturn, 1) := by decide +kernel
theorem dX11_gap_23 : decode cX11_gap 23 = .ok (.aload_n 0, 1) := by decide +kernel
theorem dX11_gap_24 : decode cX11_gap 24 = .ok (.getfield 30, 3) := by decide +kernel
theorem dX11_gap_27 : decode cX11_gap 27 = .ok (.getfield 40, 3) := by decide +kernel
theorem dX11_gap_30 : decode cX11_gap 30 = .ok (.iload_n 1, 1) := by decide +kernel
theorem dX11_gap_31 : decode cX11_gap 31 = .ok (.aload_n 0, 1) := by decide +kernel
theorem dX11_gap_32 : decode cX11_gap 32 = .ok (.getfield 30, 3) := by decide +kernel
theorem dX11_gap_35 : decode cX11_gap 35 = .ok (.getfield 132, 3) := by decide +kernel
theorem dX11_gap_38 : decode cX11_gap 38 = .ok (.getfield 135, 3) := by decide +kernel
theorem dX11_gap_41 : decode cX11_gap 41 = .ok (.iload_n 1, 1) := by decide +kernel
theorem dX11_gap_42 : decode cX11_gap 42 = .ok (.iaload, 1) := by decide +kernel
theorem dX11_gap_43 : decode cX11_gap 43 = .ok (.iload_n 2, 1) := by decide +kernel
theorem dX11_gap_44 : decode cX11_gap 44 = .ok (.aload_n 0, 1) := by decide +kernel
theorem dX11_gap_45 : decode cX11_gap 45 = .ok (.getfield 30, 3) := by decide +kernel
theorem dX11_gap_48 : decode cX11_gap 48 = .ok (.getfield 132, 3) := by decide +kernel
theorem dX11_gap_51 : decode cX11_gap 51 = .ok (.getfield 135, 3) := by decide +kernel
theorem dX11_gap_54 : decode cX11_gap 54 = .ok (.iload_n 2, 1) := by decide +kernel
theorem dX11_gap_55 : decode cX11_gap 55 = .ok (.iaload, 1) := by decide +kernel
theorem dX11_gap_56 : decode cX11_gap 56 = .ok (.invokevirtual 178, 3) := by decide +kernel
theorem dX11_gap_59 : decode cX11_gap 59 = .ok (.ireturn, 1) := by decide +kernel
def wp_X11_gap (h : AH) (a0 : Nat) (x1 : Int32) (x2 : Int32) (post : AH → Int32 → Prop) : Prop := (ob h a0 10) ∧ wp_X11_isRaft h a0 x1 (fun hv1 iv2 => (iv2 = 0 → (post hv1 (-1))) ∧ (¬ iv2 = 0 → ((ob hv1 a0 10) ∧ wp_X11_isRaft hv1 a0 x2 (fun hv3 iv4 => (iv4 = 0 → (post hv3 (-1))) ∧ (¬ iv4 = 0 → ((¬ x1 = x2 → ((ob hv3 a0 10) ∧ (∃ rv5, aP hv3 a0 5 = some rv5 ∧ ((ob hv3 rv5 5) ∧ (∃ rv6, aP hv3 rv5 0 = some rv6 ∧ ((ob hv3 a0 10) ∧ (∃ rv7, aP hv3 a0 5 = some rv7 ∧ ((ob hv3 rv7 5) ∧ (∃ rv8, aP hv3 rv7 1 = some rv8 ∧ ((ob hv3 rv8 7) ∧ (∃ rv9, aP hv3 rv8 1 = some rv9 ∧ ((ob hv3 rv9 13) ∧ ((vp_in x1 (aL hv3 rv9)) ∧ ((ob hv3 a0 10) ∧ (∃ rv10, aP hv3 a0 5 = some rv10 ∧ ((ob hv3 rv10 5) ∧ (∃ rv11, aP hv3 rv10 1 = some rv11 ∧ ((ob hv3 rv11 7) ∧ (∃ rv12, aP hv3 rv11 1 = some rv12 ∧ ((ob hv3 rv12 13) ∧ ((vp_in x2 (aL hv3 rv12)) ∧ ((ob hv3 rv6 1) ∧ wp_X1_between hv3 rv6 x1 (aI hv3 rv9 x1.toNatClampNeg) x2 (aI hv3 rv12 x2.toNatClampNeg) (fun hv13 iv14 => post hv13 iv14))))))))))))))))))))))) ∧ (x1 = x2 → (post hv3 (-1)))))))))
set_option maxRecDepth 100000 in
theorem c_X11_gap (G : GG) (h : AH) (a0 : Nat) (x1 : Int32) (x2 : Int32) (post : AH → Int32 → Prop) (hw : wp_X11_gap h a0 x1 x2 post) : MC G yX11_gap cX11_gap 3 (some .int) 2 52 h [.ref (G.1 + a0), .int x1, .int x2] (pI post) := by
  refine MC.of (lv := [(0, .ref (G.1 + a0)), (1, .int x1), (2, .int x2)]) (by decide) (Nat.le_of_ble_eq_true rfl) rfl fun p l e R s m args below meth c C hr hnm => ?_
  unfold wp_X11_gap at hw
  refine r_aload_n C dX11_gap_0 0 rfl ?_
  refine r_iload_n C dX11_gap_1 1 rfl ?_
  have hob := hw.1
  replace hw := hw.2
  refine r_callV C (As := [.int x1]) (rest := []) (c_X11_isRaft G h a0 x1 _ hw) yl_X11_isRaft (gm4 (List.mem_of_getElem? (i := 145) rfl) rfl) (gm4 (List.mem_of_getElem? (i := 147) rfl) rfl) (ci := 10) rfl (by decide) (gsel (List.mem_of_getElem? (i := 16) rfl)) hob (by decide) rfl (Nat.le_of_ble_eq_true rfl) dX11_gap_2 rfl (kI fun hv1 iv2 hw => ?_)
  refine r_if_eq C dX11_gap_5 21 (by decide) (fun hc => ?_) (fun hc => ?_)
  · replace hw := hw.1 hc
    refine r_iconst (v := (-1)) C dX11_gap_21 (by decide) ?_
    exact r_iret C hr dX11_gap_22 hw
  · replace hw := hw.2 hc
    refine r_aload_n C dX11_gap_8 0 rfl ?_
    refine r_iload_n C dX11_gap_9 2 rfl ?_
    have hob := hw.1
    replace hw := hw.2
    refine r_callV C (As := [.int x2]) (rest := []) (c_X11_isRaft G hv1 a0 x2 _ hw) yl_X11_isRaft (gm4 (List.mem_of_getElem? (i := 145) rfl) rfl) (gm4 (List.mem_of_getElem? (i := 147) rfl) rfl) (ci := 10) rfl (by decide) (gsel (List.mem_of_getElem? (i := 16) rfl)) hob (by decide) rfl (Nat.le_of_ble_eq_true rfl) dX11_gap_10 rfl (kI fun hv3 iv4 hw => ?_)
    refine r_if_eq C dX11_gap_13 21 (by decide) (fun hc => ?_) (fun hc => ?_)
    · replace hw := hw.1 hc
      refine r_iconst (v := (-1)) C dX11_gap_21 (by decide) ?_
      exact r_iret C hr dX11_gap_22 hw
    · replace hw := hw.2 hc
      refine r_iload_n C dX11_gap_16 1 rfl ?_
      refine r_iload_n C dX11_gap_17 2 rfl ?_
      refine r_icmp_ne C dX11_gap_18 23 (by decide) (fun hc => ?_) (fun hc => ?_)
      · replace hw := hw.1 hc
        refine r_aload_n C dX11_gap_23 0 rfl ?_
        have hob := hw.1
        obtain ⟨rv5, hp, hw⟩ := hw.2
        refine r_getP C fl_RX11_30_10 hob hp (fun _ _ _ => rfl) dX11_gap_24 ?_
        have hob := hw.1
        obtain ⟨rv6, hp, hw⟩ := hw.2
        refine r_getP C fl_RX11_40_5 hob hp (fun _ _ _ => rfl) dX11_gap_27 ?_
        refine r_iload_n C dX11_gap_30 1 rfl ?_
        refine r_aload_n C dX11_gap_31 0 rfl ?_
        have hob := hw.1
        obtain ⟨rv7, hp, hw⟩ := hw.2
        refine r_getP C fl_RX11_30_10 hob hp (fun _ _ _ => rfl) dX11_gap_32 ?_
        have hob := hw.1
        obtain ⟨rv8, hp, hw⟩ := hw.2
        refine r_getP C fl_RX11_132_5 hob hp (fun _ _ _ => rfl) dX11_gap_35 ?_
        have hob := hw.1
        obtain ⟨rv9, hp, hw⟩ := hw.2
        refine r_getP C fl_RX11_135_7 hob hp (fun _ _ _ => rfl) dX11_gap_38 ?_
        refine r_iload_n C dX11_gap_41 1 rfl ?_
        refine r_iaload C hw.1 hw.2.1 dX11_gap_42 ?_
        replace hw := hw.2.2
        refine r_iload_n C dX11_gap_43 2 rfl ?_
        refine r_aload_n C dX11_gap_44 0 rfl ?_
        have hob := hw.1
        obtain ⟨rv10, hp, hw⟩ := hw.2
        refine r_getP C fl_RX11_30_10 hob hp (fun _ _ _ => rfl) dX11_gap_45 ?_
        have hob := hw.1
        obtain ⟨rv11, hp, hw⟩ := hw.2
        refine r_getP C fl_RX11_132_5 hob hp (fun _ _ _ => rfl) dX11_gap_48 ?_
        have hob := hw.1
        obtain ⟨rv12, hp, hw⟩ := hw.2
        refine r_getP C fl_RX11_135_7 hob hp (fun _ _ _ => rfl) dX11_gap_51 ?_
        refine r_iload_n C dX11_gap_54 2 rfl ?_
        refine r_iaload C hw.1 hw.2.1 dX11_gap_55 ?_
        replace hw := hw.2.2
        have hob := hw.1
        replace hw := hw.2
        refine r_callV C (As := [.int x1, .int (aI hv3 rv9 x1.toNatClampNeg), .int x2, .int (aI hv3 rv12 x2.toNatClampNeg)]) (rest := []) (c_X1_between G hv3 rv6 x1 (aI hv3 rv9 x1.toNatClampNeg) x2 (aI hv3 rv12 x2.toNatClampNeg) _ hw) yl_X1_between (gm4 (List.mem_of_getElem? (i := 158) rfl) rfl) (gm4 (List.mem_of_getElem? (i := 10) rfl) rfl) (ci := 1) rfl (by decide) (gm4 (List.mem_of_getElem? (i := 11) rfl) rfl) hob (by decide) rfl (Nat.le_of_ble_eq_true rfl) dX11_gap_56 rfl (kI fun hv13 iv14 hw => ?_)
        exact r_iret C hr dX11_gap_59 hw
      · replace hw := hw.2 hc
        refine r_iconst (v := (-1)) C dX11_gap_21 (by decide) ?_
        exact r_iret C hr dX11_gap_22 hw
theorem dX11_move_0 : decode cX11_move 0 = .ok (.aload_n 0, 1) := by decide +kernel
theorem dX11_move_1 : decode cX11_move 1 = .ok (.iload_n 1, 1) := by decide +kernel
theorem dX11_move_2 : decode cX11_move 2 = .ok (.invokevirtual 126, 3) := by decide +kernel
theorem dX11_move_5 : decode cX11_move 5 = .ok (.ifCond .eq 19, 3) := by decide +kernel
theorem dX11_move_8 : decode cX11_move 8 = .ok (.iload_n 2, 1) := by decide +kernel
theorem dX11_move_9 : decode cX11_move 9 = .ok (.ifCond .lt 15, 3) := by decide +kernel
theorem dX11_move_12 : decode cX11_move 12 = .ok (.iload_n 2, 1) := by decide +kernel
theorem dX11_move_13 : decode cX11_move 13 = .ok (.iconst 4, 1) := by decide +kernel
theorem dX11_move_14 : decode cX11_move 14 = .ok (.if_icmp .gt 10, 3) := by decide +kernel
theorem dX11_move_17 : decode cX11_move 17 = .ok (.iload_n 3, 1) := by decide +kernel
theorem dX11_move_18 : decode cX11_move 18 = .ok (.invokestatic 109, 3) := by decide +kernel
theorem dX11_move_21 : decode cX11_move 21 = .ok (.ifCond .ne 5, 3) := by decide +kernel
theorem dX11_move_24 : decode cX11_move 24 = .ok (.iconst (-1), 1) := by decide +kernel
theorem dX11_move_25 : decode cX11_move 25 = .ok (.ireturn, 1) := by decide +kernel
theorem dX11_move_26 : decode cX11_move 26 = .ok (.aload_n 0, 1) := by decide +kernel
theorem dX11_move_27 : decode cX11_move 27 = .ok (.getfield 30, 3) := by decide +kernel
theorem dX11_move_30 : decode cX11_move 30 = .ok (.getfield 132, 3) := by decide +kernel
theorem dX11_move_33 : decode cX11_move 33 = .ok (.iload_n 1, 1) := by decide +kernel
theorem dX11_move_34 : decode cX11_move 34 = .ok (.iload_n 2, 1) := by decide +kernel
theorem dX11_move_35 : decode cX11_move 35 = .ok (.iload_n 3, 1) := by decide +kernel
theorem dX11_move_36 : decode cX11_move 36 = .ok (.invokevirtual 182, 3) := by decide +kernel
theorem dX11_move_39 : decode cX11_move 39 = .ok (.istore 4, 2) := by decide +kernel
theorem dX11_move_41 : decode cX11_move 41 = .ok (.iload 4, 2) := by decide +kernel
theorem dX11_move_43 : decode cX11_move 43 = .ok (.ifCond .ge 7, 3) := by decide +kernel
theorem dX11_move_46 : decode cX11_move 46 = .ok (.iload 4, 2) := by decide +kernel
theorem dX11_move_48 : decode cX11_move 48 = .ok (.ineg, 1) := by decide +kernel
theorem dX11_move_49 : decode cX11_move 49 = .ok (.ireturn, 1) := by decide +kernel
theorem dX11_move_50 : decode cX11_move 50 = .ok (.aload_n 0, 1) := by decide +kernel
theorem dX11_move_51 : decode cX11_move 51 = .ok (.getfield 30, 3) := by decide +kernel
theorem dX11_move_54 : decode cX11_move 54 = .ok (.getfield 132, 3) := by decide +kernel
theorem dX11_move_57 : decode cX11_move 57 = .ok (.iload_n 1, 1) := by decide +kernel
theorem dX11_move_58 : decode cX11_move 58 = .ok (.iload 4, 2) := by decide +kernel
theorem dX11_move_60 : decode cX11_move 60 = .ok (.invokevirtual 186, 3) := by decide +kernel
theorem dX11_move_63 : decode cX11_move 63 = .ok (.iconst 0, 1) := by decide +kernel
theorem dX11_move_64 : decode cX11_move 64 = .ok (.ireturn, 1) := by decide +kernel
def wp_X11_move (h : AH) (a0 : Nat) (x1 : Int32) (x2 : Int32) (x3 : Int32) (post : AH → Int32 → Prop) : Prop := (ob h a0 10) ∧ wp_X11_isRaft h a0 x1 (fun hv1 iv2 => (iv2 = 0 → (post hv1 (-1))) ∧ (¬ iv2 = 0 → ((x2 < 0 → (post hv1 (-1))) ∧ (¬ x2 < 0 → ((4 < x2 → (post hv1 (-1))) ∧ (¬ 4 < x2 → (wp_X11_isHour hv1 x3 (fun hv3 iv4 => (¬ iv4 = 0 → ((ob hv3 a0 10) ∧ (∃ rv5, aP hv3 a0 5 = some rv5 ∧ ((ob hv3 rv5 5) ∧ (∃ rv6, aP hv3 rv5 1 = some rv6 ∧ ((ob hv3 rv6 7) ∧ wp_X8_attempt hv3 rv6 x1 x2 x3 (fun hv7 iv8 => (0 ≤ iv8 → ((ob hv7 a0 10) ∧ (∃ rv9, aP hv7 a0 5 = some rv9 ∧ ((ob hv7 rv9 5) ∧ (∃ rv10, aP hv7 rv9 1 = some rv10 ∧ ((ob hv7 rv10 7) ∧ wp_X8_put hv7 rv10 x1 iv8 (fun hv11  => post hv11 0))))))) ∧ (¬ 0 ≤ iv8 → (post hv7 (-iv8)))))))))) ∧ (iv4 = 0 → (post hv3 (-1)))))))))))
set_option maxRecDepth 100000 in
theorem c_X11_move (G : GG) (h : AH) (a0 : Nat) (x1 : Int32) (x2 : Int32) (x3 : Int32) (post : AH → Int32 → Prop) (hw : wp_X11_move h a0 x1 x2 x3 post) : MC G yX11_move cX11_move 5 (some .int) 4 103 h [.ref (G.1 + a0), .int x1, .int x2, .int x3] (pI post) := by
  refine MC.of (lv := [(0, .ref (G.1 + a0)), (1, .int x1), (2, .int x2), (3, .int x3)]) (by decide) (Nat.le_of_ble_eq_true rfl) rfl fun p l e R s m args below meth c C hr hnm => ?_
  unfold wp_X11_move at hw
  refine r_aload_n C dX11_move_0 0 rfl ?_
  refine r_iload_n C dX11_move_1 1 rfl ?_
  have hob := hw.1
  replace hw := hw.2
  refine r_callV C (As := [.int x1]) (rest := []) (c_X11_isRaft G h a0 x1 _ hw) yl_X11_isRaft (gm4 (List.mem_of_getElem? (i := 145) rfl) rfl) (gm4 (List.mem_of_getElem? (i := 147) rfl) rfl) (ci := 10) rfl (by decide) (gsel (List.mem_of_getElem? (i := 16) rfl)) hob (by decide) rfl (Nat.le_of_ble_eq_true rfl) dX11_move_2 rfl (kI fun hv1 iv2 hw => ?_)
  refine r_if_eq C dX11_move_5 24 (by decide) (fun hc => ?_) (fun hc => ?_)
  · replace hw := hw.1 hc
    refine r_iconst (v := (-1)) C dX11_move_24 (by decide) ?_
    exact r_iret C hr dX11_move_25 hw
  · replace hw := hw.2 hc
    refine r_iload_n C dX11_move_8 2 rfl ?_
    refine r_if_lt C dX11_move_9 24 (by decide) (fun hc => ?_) (fun hc => ?_)
    · replace hw := hw.1 hc
      refine r_iconst (v := (-1)) C dX11_move_24 (by decide) ?_
      exact r_iret C hr dX11_move_25 hw
    · replace hw := hw.2 hc
      refine r_iload_n C dX11_move_12 2 rfl ?_
      refine r_iconst (v := 4) C dX11_move_13 (by decide) ?_
      refine r_icmp_gt C dX11_move_14 24 (by decide) (fun hc => ?_) (fun hc => ?_)
      · replace hw := hw.1 hc
        refine r_iconst (v := (-1)) C dX11_move_24 (by decide) ?_
        exact r_iret C hr dX11_move_25 hw
      · replace hw := hw.2 hc
        refine r_iload_n C dX11_move_17 3 rfl ?_
        refine r_callS C (As := [.int x3]) (rest := []) (c_X11_isHour G hv1 x3 _ hw) yl_X11_isHour (gm4 (List.mem_of_getElem? (i := 90) rfl) rfl) (gm4 (List.mem_of_getElem? (i := 91) rfl) rfl) (by decide) rfl (Nat.le_of_ble_eq_true rfl) dX11_move_18 rfl (kI fun hv3 iv4 hw => ?_)
        refine r_if_ne C dX11_move_21 26 (by decide) (fun hc => ?_) (fun hc => ?_)
        · replace hw := hw.1 hc
          refine r_aload_n C dX11_move_26 0 rfl ?_
          have hob := hw.1
          obtain ⟨rv5, hp, hw⟩ := hw.2
          refine r_getP C fl_RX11_30_10 hob hp (fun _ _ _ => rfl) dX11_move_27 ?_
          have hob := hw.1
          obtain ⟨rv6, hp, hw⟩ := hw.2
          refine r_getP C fl_RX11_132_5 hob hp (fun _ _ _ => rfl) dX11_move_30 ?_
          refine r_iload_n C dX11_move_33 1 rfl ?_
          refine r_iload_n C dX11_move_34 2 rfl ?_
          refine r_iload_n C dX11_move_35 3 rfl ?_
          have hob := hw.1
          replace hw := hw.2
          refine r_callV C (As := [.int x1, .int x2, .int x3]) (rest := []) (c_X8_attempt G hv3 rv6 x1 x2 x3 _ hw) yl_X8_attempt (gm4 (List.mem_of_getElem? (i := 163) rfl) rfl) (gm4 (List.mem_of_getElem? (i := 164) rfl) rfl) (ci := 7) rfl (by decide) (gm4 (List.mem_of_getElem? (i := 165) rfl) rfl) hob (by decide) rfl (Nat.le_of_ble_eq_true rfl) dX11_move_36 rfl (kI fun hv7 iv8 hw => ?_)
          refine r_istore C dX11_move_39 [(4, .int iv8), (0, .ref (G.1 + a0)), (1, .int x1), (2, .int x2), (3, .int x3)] (by decide) rfl ?_
          refine r_iload C dX11_move_41 0 rfl ?_
          refine r_if_ge C dX11_move_43 50 (by decide) (fun hc => ?_) (fun hc => ?_)
          · replace hw := hw.1 hc
            refine r_aload_n C dX11_move_50 1 rfl ?_
            have hob := hw.1
            obtain ⟨rv9, hp, hw⟩ := hw.2
            refine r_getP C fl_RX11_30_10 hob hp (fun _ _ _ => rfl) dX11_move_51 ?_
            have hob := hw.1
            obtain ⟨rv10, hp, hw⟩ := hw.2
            refine r_getP C fl_RX11_132_5 hob hp (fun _ _ _ => rfl) dX11_move_54 ?_
            refine r_iload_n C dX11_move_57 2 rfl ?_
            refine r_iload C dX11_move_58 0 rfl ?_
            have hob := hw.1
            replace hw := hw.2
            refine r_callV C (As := [.int x1, .int iv8]) (rest := []) (c_X8_put G hv7 rv10 x1 iv8 _ hw) yl_X8_put (gm4 (List.mem_of_getElem? (i := 189) rfl) rfl) (gm4 (List.mem_of_getElem? (i := 74) rfl) rfl) (ci := 7) rfl (by decide) (gm4 (List.mem_of_getElem? (i := 75) rfl) rfl) hob (by decide) rfl (Nat.le_of_ble_eq_true rfl) dX11_move_60 rfl (kV fun hv11  hw => ?_)
            refine r_iconst (v := 0) C dX11_move_63 (by decide) ?_
            exact r_iret C hr dX11_move_64 hw
          · replace hw := hw.2 hc
            refine r_iload C dX11_move_46 0 rfl ?_
            refine r_ineg C dX11_move_48 ?_
            exact r_iret C hr dX11_move_49 hw
        · replace hw := hw.2 hc
          refine r_iconst (v := (-1)) C dX11_move_24 (by decide) ?_
          exact r_iret C hr dX11_move_25 hw
theorem dX11_wants_0 : decode cX11_wants 0 = .ok (.iload_n 1, 1) := by decide +kernel
theorem dX11_wants_1 : decode cX11_wants 1 = .ok (.ifCond .ne 14, 3) := by decide +kernel
theorem dX11_wants_4 : decode cX11_wants 4 = .ok (.aload_n 0, 1) := by decide +kernel
theorem dX11_wants_5 : decode cX11_wants 5 = .ok (.getfield 30, 3) := by decide +kernel
theorem dX11_wants_8 : decode cX11_wants 8 = .ok (.getfield 132, 3) := by decide +kernel
theorem dX11_wants_11 : decode cX11_wants 11 = .ok (.invokevirtual 190, 3) := by decide +kernel
theorem dX11_wants_14 : decode cX11_wants 14 = .ok (.ireturn, 1) := by decide +kernel
theorem dX11_wants_15 : decode cX11_wants 15 = .ok (.iload_n 1, 1) := by decide +kernel
theorem dX11_wants_16 : decode cX11_wants 16 = .ok (.iconst 1, 1) := by decide +kernel
theorem dX11_wants_17 : decode cX11_wants 17 = .ok (.if_icmp .ne 16, 3) := by decide +kernel
theorem dX11_wants_20 : decode cX11_wants 20 = .ok (.aload_n 0, 1) := by decide +kernel
theorem dX11_wants_21 : decode cX11_wants 21 = .ok (.getfield 30, 3) := by decide +kernel
theorem dX11_wants_24 : decode cX11_wants 24 = .ok (.getfield 132, 3) := by decide +kernel
theorem dX11_wants_27 : decode cX11_wants 27 = .ok (.invokevirtual 193, 3) := by decide +kernel
theorem dX11_wants_30 : decode cX11_wants 30 = .ok (.goto 4, 3) := by decide +kernel
theorem dX11_wants_33 : decode cX11_wants 33 = .ok (.iconst (-1), 1) := by decide +kernel
theorem dX11_wants_34 : decode cX11_wants 34 = .ok (.ireturn, 1) := by decide +kernel
def wp_X11_wants (h : AH) (a0 : Nat) (x1 : Int32) (post : AH → Int32 → Prop) : Prop := (¬ x1 = 0 → ((¬ x1 = 1 → (post h (-1))) ∧ (x1 = 1 → ((ob h a0 10) ∧ (∃ rv1, aP h a0 5 = some rv1 ∧ ((ob h rv1 5) ∧ (∃ rv2, aP h rv1 1 = some rv2 ∧ ((ob h rv2 7) ∧ wp_X8_metBits h rv2  (fun hv3 iv4 => post hv3 iv4))))))))) ∧ (x1 = 0 → ((ob h a0 10) ∧ (∃ rv5, aP h a0 5 = some rv5 ∧ ((ob h rv5 5) ∧ (∃ rv6, aP h rv5 1 = some rv6 ∧ ((ob h rv6 7) ∧ wp_X8_met h rv6  (fun hv7 iv8 => post hv7 iv8)))))))
set_option maxRecDepth 100000 in
theorem c_X11_wants (G : GG) (h : AH) (a0 : Nat) (x1 : Int32) (post : AH → Int32 → Prop) (hw : wp_X11_wants h a0 x1 post) : MC G yX11_wants cX11_wants 2 (some .int) 5 113 h [.ref (G.1 + a0), .int x1] (pI post) := by
  refine MC.of (lv := [(0, .ref (G.1 + a0)), (1, .int x1)]) (by decide) (Nat.le_of_ble_eq_true rfl) rfl fun p l e R s m args below meth c C hr hnm => ?_
  unfold wp_X11_wants at hw
  refine r_iload_n C dX11_wants_0 1 rfl ?_
  refine r_if_ne C dX11_wants_1 15 (by decide) (fun hc => ?_) (fun hc => ?_)
  · replace hw := hw.1 hc
    refine r_iload_n C dX11_wants_15 1 rfl ?_
    refine r_iconst (v := 1) C dX11_wants_16 (by decide) ?_
    refine r_icmp_ne C dX11_wants_17 33 (by decide) (fun hc => ?_) (fun hc => ?_)
    · replace hw := hw.1 hc
      refine r_iconst (v := (-1)) C dX11_wants_33 (by decide) ?_
      exact r_iret C hr dX11_wants_34 hw
    · replace hw := hw.2 hc
      refine r_aload_n C dX11_wants_20 0 rfl ?_
      have hob := hw.1
      obtain ⟨rv1, hp, hw⟩ := hw.2
      refine r_getP C fl_RX11_30_10 hob hp (fun _ _ _ => rfl) dX11_wants_21 ?_
      have hob := hw.1
      obtain ⟨rv2, hp, hw⟩ := hw.2
      refine r_getP C fl_RX11_132_5 hob hp (fun _ _ _ => rfl) dX11_wants_24 ?_
      have hob := hw.1
      replace hw := hw.2
      refine r_callV C (As := []) (rest := []) (c_X8_metBits G h rv2  _ hw) yl_X8_metBits (gm4 (List.mem_of_getElem? (i := 223) rfl) rfl) (gm4 (List.mem_of_getElem? (i := 199) rfl) rfl) (ci := 7) rfl (by decide) (gm4 (List.mem_of_getElem? (i := 200) rfl) rfl) hob (by decide) rfl (Nat.le_of_ble_eq_true rfl) dX11_wants_27 rfl (kI fun hv3 iv4 hw => ?_)
      refine r_goto C dX11_wants_30 34 (by decide) ?_
      exact r_iret C hr dX11_wants_34 hw
  · replace hw := hw.2 hc
    refine r_aload_n C dX11_wants_4 0 rfl ?_
    have hob := hw.1
    obtain ⟨rv5, hp, hw⟩ := hw.2
    refine r_getP C fl_RX11_30_10 hob hp (fun _ _ _ => rfl) dX11_wants_5 ?_
    have hob := hw.1
    obtain ⟨rv6, hp, hw⟩ := hw.2
    refine r_getP C fl_RX11_132_5 hob hp (fun _ _ _ => rfl) dX11_wants_8 ?_
    have hob := hw.1
    replace hw := hw.2
    refine r_callV C (As := []) (rest := []) (c_X8_met G h rv6  _ hw) yl_X8_met (gm4 (List.mem_of_getElem? (i := 194) rfl) rfl) (gm4 (List.mem_of_getElem? (i := 195) rfl) rfl) (ci := 7) rfl (by decide) (gm4 (List.mem_of_getElem? (i := 196) rfl) rfl) hob (by decide) rfl (Nat.le_of_ble_eq_true rfl) dX11_wants_11 rfl (kI fun hv7 iv8 hw => ?_)
    exact r_iret C hr dX11_wants_14 hw
theorem dX11_plan_0 : decode cX11_plan 0 = .ok (.aload_n 0, 1) := by decide +kernel
theorem dX11_plan_1 : decode cX11_plan 1 = .ok (.getfield 23, 3) := by decide +kernel
theorem dX11_plan_4 : decode cX11_plan 4 = .ok (.aload_n 0, 1) := by decide +kernel
theorem dX11_plan_5 : decode cX11_plan 5 = .ok (.getfield 30, 3) := by decide +kernel
theorem dX11_plan_8 : decode cX11_plan 8 = .ok (.getfield 40, 3) := by decide +kernel
theorem dX11_plan_11 : decode cX11_plan 11 = .ok (.aload_n 0, 1) := by decide +kernel
theorem dX11_plan_12 : decode cX11_plan 12 = .ok (.getfield 9, 3) := by decide +kernel
theorem dX11_plan_15 : decode cX11_plan 15 = .ok (.aload_n 0, 1) := by decide +kernel
theorem dX11_plan_16 : decode cX11_plan 16 = .ok (.invokevirtual 79, 3) := by decide +kernel
theorem dX11_plan_19 : decode cX11_plan 19 = .ok (.invokevirtual 196, 3) := by decide +kernel
theorem dX11_plan_22 : decode cX11_plan 22 = .ok (.istore_n 1, 1) := by decide +kernel
theorem dX11_plan_23 : decode cX11_plan 23 = .ok (.aload_n 0, 1) := by decide +kernel
theorem dX11_plan_24 : decode cX11_plan 24 = .ok (.aload_n 0, 1) := by decide +kernel
theorem dX11_plan_25 : decode cX11_plan 25 = .ok (.getfield 23, 3) := by decide +kernel
theorem dX11_plan_28 : decode cX11_plan 28 = .ok (.getfield 200, 3) := by decide +kernel
theorem dX11_plan_31 : decode cX11_plan 31 = .ok (.putfield 90, 3) := by decide +kernel
theorem dX11_plan_34 : decode cX11_plan 34 = .ok (.aload_n 0, 1) := by decide +kernel
theorem dX11_plan_35 : decode cX11_plan 35 = .ok (.getfield 90, 3) := by decide +kernel
theorem dX11_plan_38 : decode cX11_plan 38 = .ok (.ifCond .eq 13, 3) := by decide +kernel
theorem dX11_plan_41 : decode cX11_plan 41 = .ok (.iconst (-1), 1) := by decide +kernel
theorem dX11_plan_42 : decode cX11_plan 42 = .ok (.aload_n 0, 1) := by decide +kernel
theorem dX11_plan_43 : decode cX11_plan 43 = .ok (.getfield 23, 3) := by decide +kernel
theorem dX11_plan_46 : decode cX11_plan 46 = .ok (.getfield 201, 3) := by decide +kernel
theorem dX11_plan_49 : decode cX11_plan 49 = .ok (.isub, 1) := by decide +kernel
theorem dX11_plan_50 : decode cX11_plan 50 = .ok (.ireturn, 1) := by decide +kernel
theorem dX11_plan_51 : decode cX11_plan 51 = .ok (.aload_n 0, 1) := by decide +kernel
theorem dX11_plan_52 : decode cX11_plan 52 = .ok (.getfield 30, 3) := by decide +kernel
theorem dX11_plan_55 : decode cX11_plan 55 = .ok (.iload_n 1, 1) := by decide +kernel
theorem dX11_plan_56 : decode cX11_plan 56 = .ok (.aload_n 0, 1) := by decide +kernel
theorem dX11_plan_57 : decode cX11_plan 57 = .ok (.getfield 23, 3) := by decide +kernel
theorem dX11_plan_60 : decode cX11_plan 60 = .ok (.getfield 202, 3) := by decide +kernel
theorem dX11_plan_63 : decode cX11_plan 63 = .ok (.aload_n 0, 1) := by decide +kernel
theorem dX11_plan_64 : decode cX11_plan 64 = .ok (.getfield 23, 3) := by decide +kernel
theorem dX11_plan_67 : decode cX11_plan 67 = .ok (.getfield 205, 3) := by decide +kernel
theorem dX11_plan_70 : decode cX11_plan 70 = .ok (.invokevirtual 208, 3) := by decide +kernel
theorem dX11_plan_73 : decode cX11_plan 73 = .ok (.iload_n 1, 1) := by decide +kernel
theorem dX11_plan_74 : decode cX11_plan 74 = .ok (.ireturn, 1) := by decide +kernel
def wp_X11_plan (h : AH) (a0 : Nat) (post : AH → Int32 → Prop) : Prop := (ob h a0 10) ∧ (∃ rv1, aP h a0 4 = some rv1 ∧ ((ob h a0 10) ∧ (∃ rv2, aP h a0 5 = some rv2 ∧ ((ob h rv2 5) ∧ (∃ rv3, aP h rv2 0 = some rv3 ∧ ((ob h a0 10) ∧ (∃ rv4, aP h a0 0 = some rv4 ∧ ((ob h a0 10) ∧ wp_X11_takeTape h a0  (fun hv5 iv6 => (ob hv5 rv1 3) ∧ wp_X3_readActs hv5 rv1 rv3 rv4 iv6 (fun hv7 iv8 => (ob hv7 a0 10) ∧ (∃ rv9, aP hv7 a0 4 = some rv9 ∧ ((ob hv7 rv9 3) ∧ ((ob hv7 a0 10) ∧ (∀ hv10 : AH, hv10 = hI hv7 a0 2 (aI hv7 rv9 10) → ((ob hv10 a0 10) ∧ (((aI hv10 a0 2) = 0 → ((ob hv10 a0 10) ∧ (∃ rv11, aP hv10 a0 5 = some rv11 ∧ ((ob hv10 a0 10) ∧ (∃ rv12, aP hv10 a0 4 = some rv12 ∧ ((ob hv10 rv12 3) ∧ (∃ rv13, aP hv10 rv12 13 = some rv13 ∧ ((ob hv10 a0 10) ∧ (∃ rv14, aP hv10 a0 4 = some rv14 ∧ ((ob hv10 rv14 3) ∧ (∃ rv15, aP hv10 rv14 14 = some rv15 ∧ ((ob hv10 rv11 5) ∧ wp_X5_setActs hv10 rv11 iv8 rv13 rv15 (fun hv16  => post hv16 iv8))))))))))))) ∧ (¬ (aI hv10 a0 2) = 0 → ((ob hv10 a0 10) ∧ (∃ rv17, aP hv10 a0 4 = some rv17 ∧ ((ob hv10 rv17 3) ∧ (post hv10 ((-1 : Int32) - (aI hv10 rv17 11)))))))))))))))))))))))
set_option maxRecDepth 100000 in
theorem c_X11_plan (G : GG) (h : AH) (a0 : Nat) (post : AH → Int32 → Prop) (hw : wp_X11_plan h a0 post) : MC G yX11_plan cX11_plan 2 (some .int) 6 133 h [.ref (G.1 + a0)] (pI post) := by
  refine MC.of (lv := [(0, .ref (G.1 + a0))]) (by decide) (Nat.le_of_ble_eq_true rfl) rfl fun p l e R s m args below meth c C hr hnm => ?_
  unfold wp_X11_plan at hw
  refine r_aload_n C dX11_plan_0 0 rfl ?_
  have hob := hw.1
  obtain ⟨rv1, hp, hw⟩ := hw.2
  refine r_getP C fl_RX11_23_10 hob hp (fun _ _ _ => rfl) dX11_plan_1 ?_
  refine r_aload_n C dX11_plan_4 0 rfl ?_
  have hob := hw.1
  obtain ⟨rv2, hp, hw⟩ := hw.2
  refine r_getP C fl_RX11_30_10 hob hp (fun _ _ _ => rfl) dX11_plan_5 ?_
  have hob := hw.1
  obtain ⟨rv3, hp, hw⟩ := hw.2
  refine r_getP C fl_RX11_40_5 hob hp (fun _ _ _ => rfl) dX11_plan_8 ?_
  refine r_aload_n C dX11_plan_11 0 rfl ?_
  have hob := hw.1
  obtain ⟨rv4, hp, hw⟩ := hw.2
  refine r_getP C fl_RX11_9_10 hob hp (fun _ _ _ => rfl) dX11_plan_12 ?_
  refine r_aload_n C dX11_plan_15 0 rfl ?_
  have hob := hw.1
  replace hw := hw.2
  refine r_callV C (As := []) (rest := [.ref (G.1 + rv4), .ref (G.1 + rv3), .ref (G.1 + rv1)]) (c_X11_takeTape G h a0  _ hw) yl_X11_takeTape (gm3 (List.mem_of_getElem? (i := 107) rfl) rfl) (gm3 (List.mem_of_getElem? (i := 109) rfl) rfl) (ci := 10) rfl (by decide) (gsel (List.mem_of_getElem? (i := 1) rfl)) hob (by decide) rfl (Nat.le_of_ble_eq_true rfl) dX11_plan_16 rfl (kI fun hv5 iv6 hw => ?_)
  have hob := hw.1
  replace hw := hw.2
  refine r_callV C (As := [.ref (G.1 + rv3), .ref (G.1 + rv4), .int iv6]) (rest := []) (c_X3_readActs G hv5 rv1 rv3 rv4 iv6 _ hw) yl_X3_readActs (gm4 (List.mem_of_getElem? (i := 228) rfl) rfl) (gm4 (List.mem_of_getElem? (i := 229) rfl) rfl) (ci := 3) rfl (by decide) (gm4 (List.mem_of_getElem? (i := 230) rfl) rfl) hob (by decide) rfl (Nat.le_of_ble_eq_true rfl) dX11_plan_19 rfl (kI fun hv7 iv8 hw => ?_)
  refine r_istore_n C dX11_plan_22 [(1, .int iv8), (0, .ref (G.1 + a0))] (by decide) rfl ?_
  refine r_aload_n C dX11_plan_23 1 rfl ?_
  refine r_aload_n C dX11_plan_24 1 rfl ?_
  have hob := hw.1
  obtain ⟨rv9, hp, hw⟩ := hw.2
  refine r_getP C fl_RX11_23_10 hob hp (fun _ _ _ => rfl) dX11_plan_25 ?_
  refine r_getI C fl_RX11_200_3 hw.1 (fun _ _ _ => rfl) dX11_plan_28 ?_
  replace hw := hw.2
  refine r_putI C fp_RX11_90_10 hw.1 rfl dX11_plan_31 ?_
  replace hw := hw.2
  refine r_toph fun hv10 ehv10 => ?_
  replace hw := hw hv10 ehv10
  refine r_aload_n C dX11_plan_34 1 rfl ?_
  refine r_getI C fl_RX11_90_10 hw.1 (fun _ _ _ => rfl) dX11_plan_35 ?_
  replace hw := hw.2
  refine r_if_eq C dX11_plan_38 51 (by decide) (fun hc => ?_) (fun hc => ?_)
  · replace hw := hw.1 hc
    refine r_aload_n C dX11_plan_51 1 rfl ?_
    have hob := hw.1
    obtain ⟨rv11, hp, hw⟩ := hw.2
    refine r_getP C fl_RX11_30_10 hob hp (fun _ _ _ => rfl) dX11_plan_52 ?_
    refine r_iload_n C dX11_plan_55 0 rfl ?_
    refine r_aload_n C dX11_plan_56 1 rfl ?_
    have hob := hw.1
    obtain ⟨rv12, hp, hw⟩ := hw.2
    refine r_getP C fl_RX11_23_10 hob hp (fun _ _ _ => rfl) dX11_plan_57 ?_
    have hob := hw.1
    obtain ⟨rv13, hp, hw⟩ := hw.2
    refine r_getP C fl_RX11_202_3 hob hp (fun _ _ _ => rfl) dX11_plan_60 ?_
    refine r_aload_n C dX11_plan_63 1 rfl ?_
    have hob := hw.1
    obtain ⟨rv14, hp, hw⟩ := hw.2
    refine r_getP C fl_RX11_23_10 hob hp (fun _ _ _ => rfl) dX11_plan_64 ?_
    have hob := hw.1
    obtain ⟨rv15, hp, hw⟩ := hw.2
    refine r_getP C fl_RX11_205_3 hob hp (fun _ _ _ => rfl) dX11_plan_67 ?_
    have hob := hw.1
    replace hw := hw.2
    refine r_callV C (As := [.int iv8, .ref (G.1 + rv13), .ref (G.1 + rv15)]) (rest := []) (c_X5_setActs G hv10 rv11 iv8 rv13 rv15 _ hw) yl_X5_setActs (gm5 (List.mem_of_getElem? (i := 17) rfl) rfl) (gm5 (List.mem_of_getElem? (i := 18) rfl) rfl) (ci := 5) rfl (by decide) (gm5 (List.mem_of_getElem? (i := 19) rfl) rfl) hob (by decide) rfl (Nat.le_of_ble_eq_true rfl) dX11_plan_70 rfl (kV fun hv16  hw => ?_)
    refine r_iload_n C dX11_plan_73 0 rfl ?_
    exact r_iret C hr dX11_plan_74 hw
  · replace hw := hw.2 hc
    refine r_iconst (v := (-1)) C dX11_plan_41 (by decide) ?_
    refine r_aload_n C dX11_plan_42 1 rfl ?_
    have hob := hw.1
    obtain ⟨rv17, hp, hw⟩ := hw.2
    refine r_getP C fl_RX11_23_10 hob hp (fun _ _ _ => rfl) dX11_plan_43 ?_
    refine r_getI C fl_RX11_201_3 hw.1 (fun _ _ _ => rfl) dX11_plan_46 ?_
    replace hw := hw.2
    refine r_isub C dX11_plan_49 ?_
    exact r_iret C hr dX11_plan_50 hw
theorem dX11_isQuarter_0 : decode cX11_isQuarter 0 = .ok (.iload_n 0, 1) := by decide +kernel
theorem dX11_isQuarter_1 : decode cX11_isQuarter 1 = .ok (.ifCond .lt 13, 3) := by decide +kernel
theorem dX11_isQuarter_4 : decode cX11_isQuarter 4 = .ok (.iload_n 0, 1) := by decide +kernel
theorem dX11_isQuarter_5 : decode cX11_isQuarter 5 = .ok (.bipush 96, 2) := by decide +kernel
theorem dX11_isQuarter_7 : decode cX11_isQuarter 7 = .ok (.if_icmp .ge 7, 3) := by decide +kernel
theorem dX11_isQuarter_10 : decode cX11_isQuarter 10 = .ok (.iconst 1, 1) := by decide +kernel
theorem dX11_isQuarter_11 : decode cX11_isQuarter 11 = .ok (.goto 4, 3) := by decide +kernel
theorem dX11_isQuarter_14 : decode cX11_isQuarter 14 = .ok (.iconst 0, 1) := by decide +kernel
theorem dX11_isQuarter_15 : decode cX11_isQuarter 15 = .ok (.ireturn, 1) := by decide +kernel
def wp_X11_isQuarter (h : AH) (x0 : Int32) (post : AH → Int32 → Prop) : Prop := (x0 < 0 → (((0 : Int32) = 0 ∨ (0 : Int32) = 1) ∧ post h 0)) ∧ (¬ x0 < 0 → ((96 ≤ x0 → (((0 : Int32) = 0 ∨ (0 : Int32) = 1) ∧ post h 0)) ∧ (¬ 96 ≤ x0 → (((1 : Int32) = 0 ∨ (1 : Int32) = 1) ∧ post h 1))))
set_option maxRecDepth 100000 in
theorem c_X11_isQuarter (G : GG) (h : AH) (x0 : Int32) (post : AH → Int32 → Prop) (hw : wp_X11_isQuarter h x0 post) : MC G yX11_isQuarter cX11_isQuarter 1 (some .boolean) 0 0 h [.int x0] (pI post) := by
  refine MC.of (lv := [(0, .int x0)]) (by decide) (Nat.le_of_ble_eq_true rfl) rfl fun p l e R s m args below meth c C hr hnm => ?_
  unfold wp_X11_isQuarter at hw
  refine r_iload_n C dX11_isQuarter_0 0 rfl ?_
  refine r_if_lt C dX11_isQuarter_1 14 (by decide) (fun hc => ?_) (fun hc => ?_)
  · replace hw := hw.1 hc
    refine r_iconst (v := 0) C dX11_isQuarter_14 (by decide) ?_
    exact r_zret C hr dX11_isQuarter_15 hw.1 hw.2
  · replace hw := hw.2 hc
    refine r_iload_n C dX11_isQuarter_4 0 rfl ?_
    refine r_bipush (v := 96) C dX11_isQuarter_5 (by decide) ?_
    refine r_icmp_ge C dX11_isQuarter_7 14 (by decide) (fun hc => ?_) (fun hc => ?_)
    · replace hw := hw.1 hc
      refine r_iconst (v := 0) C dX11_isQuarter_14 (by decide) ?_
      exact r_zret C hr dX11_isQuarter_15 hw.1 hw.2
    · replace hw := hw.2 hc
      refine r_iconst (v := 1) C dX11_isQuarter_10 (by decide) ?_
      refine r_goto C dX11_isQuarter_11 15 (by decide) ?_
      exact r_zret C hr dX11_isQuarter_15 hw.1 hw.2
theorem dX11_judge_0 : decode cX11_judge 0 = .ok (.iload_n 1, 1) := by decide +kernel
theorem dX11_judge_1 : decode cX11_judge 1 = .ok (.invokestatic 217, 3) := by decide +kernel
theorem dX11_judge_4 : decode cX11_judge 4 = .ok (.ifCond .ne 6, 3) := by decide +kernel
theorem dX11_judge_7 : decode cX11_judge 7 = .ok (.bipush (-2), 2) := by decide +kernel
theorem dX11_judge_9 : decode cX11_judge 9 = .ok (.ireturn, 1) := by decide +kernel
theorem dX11_judge_10 : decode cX11_judge 10 = .ok (.aload_n 0, 1) := by decide +kernel
theorem dX11_judge_11 : decode cX11_judge 11 = .ok (.getfield 54, 3) := by decide +kernel
theorem dX11_judge_14 : decode cX11_judge 14 = .ok (.aload_n 0, 1) := by decide +kernel
theorem dX11_judge_15 : decode cX11_judge 15 = .ok (.getfield 30, 3) := by decide +kernel
theorem dX11_judge_18 : decode cX11_judge 18 = .ok (.getfield 40, 3) := by decide +kernel
theorem dX11_judge_21 : decode cX11_judge 21 = .ok (.aload_n 0, 1) := by decide +kernel
theorem dX11_judge_22 : decode cX11_judge 22 = .ok (.getfield 30, 3) := by decide +kernel
theorem dX11_judge_25 : decode cX11_judge 25 = .ok (.getfield 132, 3) := by decide +kernel
theorem dX11_judge_28 : decode cX11_judge 28 = .ok (.iload_n 1, 1) := by decide +kernel
theorem dX11_judge_29 : decode cX11_judge 29 = .ok (.invokevirtual 220, 3) := by decide +kernel
theorem dX11_judge_32 : decode cX11_judge 32 = .ok (.aload_n 0, 1) := by decide +kernel
theorem dX11_judge_33 : decode cX11_judge 33 = .ok (.getfield 54, 3) := by decide +kernel
theorem dX11_judge_36 : decode cX11_judge 36 = .ok (.aload_n 0, 1) := by decide +kernel
theorem dX11_judge_37 : decode cX11_judge 37 = .ok (.getfield 30, 3) := by decide +kernel
theorem dX11_judge_40 : decode cX11_judge 40 = .ok (.iconst 0, 1) := by decide +kernel
theorem dX11_judge_41 : decode cX11_judge 41 = .ok (.invokevirtual 223, 3) := by decide +kernel
theorem dX11_judge_44 : decode cX11_judge 44 = .ok (.istore_n 2, 1) := by decide +kernel
theorem dX11_judge_45 : decode cX11_judge 45 = .ok (.aload_n 0, 1) := by decide +kernel
theorem dX11_judge_46 : decode cX11_judge 46 = .ok (.iconst 1, 1) := by decide +kernel
theorem dX11_judge_47 : decode cX11_judge 47 = .ok (.putfield 227, 3) := by decide +kernel
theorem dX11_judge_50 : decode cX11_judge 50 = .ok (.aload_n 0, 1) := by decide +kernel
theorem dX11_judge_51 : decode cX11_judge 51 = .ok (.aload_n 0, 1) := by decide +kernel
theorem dX11_judge_52 : decode cX11_judge 52 = .ok (.getfield 30, 3) := by decide +kernel
theorem dX11_judge_55 : decode cX11_judge 55 = .ok (.getfield 40, 3) := by decide +kernel
theorem dX11_judge_58 : decode cX11_judge 58 = .ok (.getfield 147, 3) := by decide +kernel
theorem dX11_judge_61 : decode cX11_judge 61 = .ok (.putfield 231, 3) := by decide +kernel
theorem dX11_judge_64 : decode cX11_judge 64 = .ok (.aload_n 0, 1) := by decide +kernel
theorem dX11_judge_65 : decode cX11_judge 65 = .ok (.aload_n 0, 1) := by decide +kernel
theorem dX11_judge_66 : decode cX11_judge 66 = .ok (.getfield 54, 3) := by decide +kernel
theorem dX11_judge_69 : decode cX11_judge 69 = .ok (.getfield 234, 3) := by decide +kernel
theorem dX11_judge_72 : decode cX11_judge 72 = .ok (.invokevirtual 190, 3) := by decide +kernel
theorem dX11_judge_75 : decode cX11_judge 75 = .ok (.putfield 235, 3) := by decide +kernel
theorem dX11_judge_78 : decode cX11_judge 78 = .ok (.iload_n 2, 1) := by decide +kernel
theorem dX11_judge_79 : decode cX11_judge 79 = .ok (.ireturn, 1) := by decide +kernel
def wp_X11_judge (h : AH) (a0 : Nat) (x1 : Int32) (post : AH → Int32 → Prop) : Prop := wp_X11_isQuarter h x1 (fun hv1 iv2 => (¬ iv2 = 0 → ((ob hv1 a0 10) ∧ (∃ rv3, aP hv1 a0 8 = some rv3 ∧ ((ob hv1 a0 10) ∧ (∃ rv4, aP hv1 a0 5 = some rv4 ∧ ((ob hv1 rv4 5) ∧ (∃ rv5, aP hv1 rv4 0 = some rv5 ∧ ((ob hv1 a0 10) ∧ (∃ rv6, aP hv1 a0 5 = some rv6 ∧ ((ob hv1 rv6 5) ∧ (∃ rv7, aP hv1 rv6 1 = some rv7 ∧ ((ob hv1 rv3 8) ∧ wp_X9_begin hv1 rv3 rv5 rv7 x1 (fun hv8  => (ob hv8 a0 10) ∧ (∃ rv9, aP hv8 a0 8 = some rv9 ∧ ((ob hv8 a0 10) ∧ (∃ rv10, aP hv8 a0 5 = some rv10 ∧ ((ob hv8 rv9 8) ∧ wp_X9_runFrom hv8 rv9 rv10 0 (fun hv11 iv12 => (ob hv11 a0 10) ∧ (((1 : Int32) = 0 ∨ (1 : Int32) = 1) ∧ (∀ hv13 : AH, hv13 = hI hv11 a0 11 1 → ((ob hv13 a0 10) ∧ (∃ rv14, aP hv13 a0 5 = some rv14 ∧ ((ob hv13 rv14 5) ∧ (∃ rv15, aP hv13 rv14 0 = some rv15 ∧ ((ob hv13 rv15 1) ∧ ((ob hv13 a0 10) ∧ (∀ hv16 : AH, hv16 = hI hv13 a0 12 (aI hv13 rv15 5) → ((ob hv16 a0 10) ∧ (∃ rv17, aP hv16 a0 8 = some rv17 ∧ ((ob hv16 rv17 8) ∧ (∃ rv18, aP hv16 rv17 0 = some rv18 ∧ ((ob hv16 rv18 7) ∧ wp_X8_met hv16 rv18  (fun hv19 iv20 => (ob hv19 a0 10) ∧ (∀ hv21 : AH, hv21 = hI hv19 a0 13 iv20 → (post hv21 iv12))))))))))))))))))))))))))))))))))) ∧ (iv2 = 0 → (post hv1 (-2))))
set_option maxRecDepth 100000 in
theorem c_X11_judge (G : GG) (h : AH) (a0 : Nat) (x1 : Int32) (post : AH → Int32 → Prop) (hw : wp_X11_judge h a0 x1 post) : MC G yX11_judge cX11_judge 3 (some .int) 6 149 h [.ref (G.1 + a0), .int x1] (pI post) := by
  refine MC.of (lv := [(0, .ref (G.1 + a0)), (1, .int x1)]) (by decide) (Nat.le_of_ble_eq_true rfl) rfl fun p l e R s m args below meth c C hr hnm => ?_
  unfold wp_X11_judge at hw
  refine r_iload_n C dX11_judge_0 1 rfl ?_
  refine r_callS C (As := [.int x1]) (rest := []) (c_X11_isQuarter G h x1 _ hw) yl_X11_isQuarter (gm5 (List.mem_of_getElem? (i := 26) rfl) rfl) (gm5 (List.mem_of_getElem? (i := 27) rfl) rfl) (by decide) rfl (Nat.le_of_ble_eq_true rfl) dX11_judge_1 rfl (kI fun hv1 iv2 hw => ?_)
  refine r_if_ne C dX11_judge_4 10 (by decide) (fun hc => ?_) (fun hc => ?_)
  · replace hw := hw.1 hc
    refine r_aload_n C dX11_judge_10 0 rfl ?_
    have hob := hw.1
    obtain ⟨rv3, hp, hw⟩ := hw.2
    refine r_getP C fl_RX11_54_10 hob hp (fun _ _ _ => rfl) dX11_judge_11 ?_
    refine r_aload_n C dX11_judge_14 0 rfl ?_
    have hob := hw.1
    obtain ⟨rv4, hp, hw⟩ := hw.2
    refine r_getP C fl_RX11_30_10 hob hp (fun _ _ _ => rfl) dX11_judge_15 ?_
    have hob := hw.1
    obtain ⟨rv5, hp, hw⟩ := hw.2
    refine r_getP C fl_RX11_40_5 hob hp (fun _ _ _ => rfl) dX11_judge_18 ?_
    refine r_aload_n C dX11_judge_21 0 rfl ?_
    have hob := hw.1
    obtain ⟨rv6, hp, hw⟩ := hw.2
    refine r_getP C fl_RX11_30_10 hob hp (fun _ _ _ => rfl) dX11_judge_22 ?_
    have hob := hw.1
    obtain ⟨rv7, hp, hw⟩ := hw.2
    refine r_getP C fl_RX11_132_5 hob hp (fun _ _ _ => rfl) dX11_judge_25 ?_
    refine r_iload_n C dX11_judge_28 1 rfl ?_
    have hob := hw.1
    replace hw := hw.2
    refine r_callV C (As := [.ref (G.1 + rv5), .ref (G.1 + rv7), .int x1]) (rest := []) (c_X9_begin G hv1 rv3 rv5 rv7 x1 _ hw) yl_X9_begin (gm5 (List.mem_of_getElem? (i := 29) rfl) rfl) (gm5 (List.mem_of_getElem? (i := 30) rfl) rfl) (ci := 8) rfl (by decide) (gm5 (List.mem_of_getElem? (i := 31) rfl) rfl) hob (by decide) rfl (Nat.le_of_ble_eq_true rfl) dX11_judge_29 rfl (kV fun hv8  hw => ?_)
    refine r_aload_n C dX11_judge_32 0 rfl ?_
    have hob := hw.1
    obtain ⟨rv9, hp, hw⟩ := hw.2
    refine r_getP C fl_RX11_54_10 hob hp (fun _ _ _ => rfl) dX11_judge_33 ?_
    refine r_aload_n C dX11_judge_36 0 rfl ?_
    have hob := hw.1
    obtain ⟨rv10, hp, hw⟩ := hw.2
    refine r_getP C fl_RX11_30_10 hob hp (fun _ _ _ => rfl) dX11_judge_37 ?_
    refine r_iconst (v := 0) C dX11_judge_40 (by decide) ?_
    have hob := hw.1
    replace hw := hw.2
    refine r_callV C (As := [.ref (G.1 + rv10), .int 0]) (rest := []) (c_X9_runFrom G hv8 rv9 rv10 0 _ hw) yl_X9_runFrom (gm5 (List.mem_of_getElem? (i := 34) rfl) rfl) (gm5 (List.mem_of_getElem? (i := 35) rfl) rfl) (ci := 8) rfl (by decide) (gm5 (List.mem_of_getElem? (i := 36) rfl) rfl) hob (by decide) rfl (Nat.le_of_ble_eq_true rfl) dX11_judge_41 rfl (kI fun hv11 iv12 hw => ?_)
    refine r_istore_n C dX11_judge_44 [(2, .int iv12), (0, .ref (G.1 + a0)), (1, .int x1)] (by decide) rfl ?_
    refine r_aload_n C dX11_judge_45 1 rfl ?_
    refine r_iconst (v := 1) C dX11_judge_46 (by decide) ?_
    refine r_putZ C fp_RX11_227_10 hw.1 hw.2.1 rfl dX11_judge_47 ?_
    replace hw := hw.2.2
    refine r_toph fun hv13 ehv13 => ?_
    replace hw := hw hv13 ehv13
    refine r_aload_n C dX11_judge_50 1 rfl ?_
    refine r_aload_n C dX11_judge_51 1 rfl ?_
    have hob := hw.1
    obtain ⟨rv14, hp, hw⟩ := hw.2
    refine r_getP C fl_RX11_30_10 hob hp (fun _ _ _ => rfl) dX11_judge_52 ?_
    have hob := hw.1
    obtain ⟨rv15, hp, hw⟩ := hw.2
    refine r_getP C fl_RX11_40_5 hob hp (fun _ _ _ => rfl) dX11_judge_55 ?_
    refine r_getI C fl_RX11_147_1 hw.1 (fun _ _ _ => rfl) dX11_judge_58 ?_
    replace hw := hw.2
    refine r_putI C fp_RX11_231_10 hw.1 rfl dX11_judge_61 ?_
    replace hw := hw.2
    refine r_toph fun hv16 ehv16 => ?_
    replace hw := hw hv16 ehv16
    refine r_aload_n C dX11_judge_64 1 rfl ?_
    refine r_aload_n C dX11_judge_65 1 rfl ?_
    have hob := hw.1
    obtain ⟨rv17, hp, hw⟩ := hw.2
    refine r_getP C fl_RX11_54_10 hob hp (fun _ _ _ => rfl) dX11_judge_66 ?_
    have hob := hw.1
    obtain ⟨rv18, hp, hw⟩ := hw.2
    refine r_getP C fl_RX11_234_8 hob hp (fun _ _ _ => rfl) dX11_judge_69 ?_
    have hob := hw.1
    replace hw := hw.2
    refine r_callV C (As := []) (rest := [.ref (G.1 + a0)]) (c_X8_met G hv16 rv18  _ hw) yl_X8_met (gm4 (List.mem_of_getElem? (i := 194) rfl) rfl) (gm4 (List.mem_of_getElem? (i := 195) rfl) rfl) (ci := 7) rfl (by decide) (gm4 (List.mem_of_getElem? (i := 196) rfl) rfl) hob (by decide) rfl (Nat.le_of_ble_eq_true rfl) dX11_judge_72 rfl (kI fun hv19 iv20 hw => ?_)
    refine r_putI C fp_RX11_235_10 hw.1 rfl dX11_judge_75 ?_
    replace hw := hw.2
    refine r_toph fun hv21 ehv21 => ?_
    replace hw := hw hv21 ehv21
    refine r_iload_n C dX11_judge_78 0 rfl ?_
    exact r_iret C hr dX11_judge_79 hw
  · replace hw := hw.2 hc
    refine r_bipush (v := (-2)) C dX11_judge_7 (by decide) ?_
    exact r_iret C hr dX11_judge_9 hw
theorem dX11_judged_0 : decode cX11_judged 0 = .ok (.aload_n 0, 1) := by decide +kernel
theorem dX11_judged_1 : decode cX11_judged 1 = .ok (.getfield 227, 3) := by decide +kernel
theorem dX11_judged_4 : decode cX11_judged 4 = .ok (.ifCond .ne 5, 3) := by decide +kernel
theorem dX11_judged_7 : decode cX11_judged 7 = .ok (.iconst (-1), 1) := by decide +kernel
theorem dX11_judged_8 : decode cX11_judged 8 = .ok (.ireturn, 1) := by decide +kernel
theorem dX11_judged_9 : decode cX11_judged 9 = .ok (.iload_n 1, 1) := by decide +kernel
theorem dX11_judged_10 : decode cX11_judged 10 = .ok (.tableswitch 71 0 4 #[34, 42, 50, 58, 66], 34) := by decide +kernel
theorem dX11_judged_44 : decode cX11_judged 44 = .ok (.aload_n 0, 1) := by decide +kernel
theorem dX11_judged_45 : decode cX11_judged 45 = .ok (.getfield 54, 3) := by decide +kernel
theorem dX11_judged_48 : decode cX11_judged 48 = .ok (.getfield 238, 3) := by decide +kernel
theorem dX11_judged_51 : decode cX11_judged 51 = .ok (.ireturn, 1) := by decide +kernel
theorem dX11_judged_52 : decode cX11_judged 52 = .ok (.aload_n 0, 1) := by decide +kernel
theorem dX11_judged_53 : decode cX11_judged 53 = .ok (.getfield 54, 3) := by decide +kernel
theorem dX11_judged_56 : decode cX11_judged 56 = .ok (.getfield 241, 3) := by decide +kernel
theorem dX11_judged_59 : decode cX11_judged 59 = .ok (.ireturn, 1) := by decide +kernel
theorem dX11_judged_60 : decode cX11_judged 60 = .ok (.aload_n 0, 1) := by decide +kernel
theorem dX11_judged_61 : decode cX11_judged 61 = .ok (.getfield 54, 3) := by decide +kernel
theorem dX11_judged_64 : decode cX11_judged 64 = .ok (.getfield 244, 3) := by decide +kernel
theorem dX11_judged_67 : decode cX11_judged 67 = .ok (.ireturn, 1) := by decide +kernel
theorem dX11_judged_68 : decode cX11_judged 68 = .ok (.aload_n 0, 1) := by decide +kernel
theorem dX11_judged_69 : decode cX11_judged 69 = .ok (.getfield 54, 3) := by decide +kernel
theorem dX11_judged_72 : decode cX11_judged 72 = .ok (.getfield 247, 3) := by decide +kernel
theorem dX11_judged_75 : decode cX11_judged 75 = .ok (.ireturn, 1) := by decide +kernel
theorem dX11_judged_76 : decode cX11_judged 76 = .ok (.aload_n 0, 1) := by decide +kernel
theorem dX11_judged_77 : decode cX11_judged 77 = .ok (.getfield 235, 3) := by decide +kernel
theorem dX11_judged_80 : decode cX11_judged 80 = .ok (.ireturn, 1) := by decide +kernel
theorem dX11_judged_81 : decode cX11_judged 81 = .ok (.iconst (-1), 1) := by decide +kernel
theorem dX11_judged_82 : decode cX11_judged 82 = .ok (.ireturn, 1) := by decide +kernel
def wp_X11_judged (h : AH) (a0 : Nat) (x1 : Int32) (post : AH → Int32 → Prop) : Prop := (ob h a0 10) ∧ ((¬ (aI h a0 11) = 0 → ((x1 = 0 → ((ob h a0 10) ∧ (∃ rv1, aP h a0 8 = some rv1 ∧ ((ob h rv1 8) ∧ (post h (aI h rv1 3)))))) ∧ (x1 = 1 → ((ob h a0 10) ∧ (∃ rv2, aP h a0 8 = some rv2 ∧ ((ob h rv2 8) ∧ (post h (aI h rv2 2)))))) ∧ (x1 = 2 → ((ob h a0 10) ∧ (∃ rv3, aP h a0 8 = some rv3 ∧ ((ob h rv3 8) ∧ (post h (aI h rv3 4)))))) ∧ (x1 = 3 → ((ob h a0 10) ∧ (∃ rv4, aP h a0 8 = some rv4 ∧ ((ob h rv4 8) ∧ (post h (aI h rv4 5)))))) ∧ (x1 = 4 → ((ob h a0 10) ∧ (post h (aI h a0 13)))) ∧ ((x1.toInt < 0 ∨ 4 < x1.toInt) → (post h (-1))))) ∧ ((aI h a0 11) = 0 → (post h (-1))))
set_option maxRecDepth 100000 in
theorem c_X11_judged (G : GG) (h : AH) (a0 : Nat) (x1 : Int32) (post : AH → Int32 → Prop) (hw : wp_X11_judged h a0 x1 post) : MC G yX11_judged cX11_judged 2 (some .int) 0 0 h [.ref (G.1 + a0), .int x1] (pI post) := by
  refine MC.of (lv := [(0, .ref (G.1 + a0)), (1, .int x1)]) (by decide) (Nat.le_of_ble_eq_true rfl) rfl fun p l e R s m args below meth c C hr hnm => ?_
  unfold wp_X11_judged at hw
  refine r_aload_n C dX11_judged_0 0 rfl ?_
  refine r_getI C fl_RX11_227_10 hw.1 (fun _ _ _ => rfl) dX11_judged_1 ?_
  replace hw := hw.2
  refine r_if_ne C dX11_judged_4 9 (by decide) (fun hc => ?_) (fun hc => ?_)
  · replace hw := hw.1 hc
    refine r_iload_n C dX11_judged_9 1 rfl ?_
    by_cases hc0 : x1 = 0
    · replace hw := hw.1 hc0
      refine r_tableIn C dX11_judged_10 (by rw [hc0]; decide) (by rw [hc0]; decide) (by rw [hc0]; rfl) 44 (by decide) ?_
      refine r_aload_n C dX11_judged_44 0 rfl ?_
      have hob := hw.1
      obtain ⟨rv1, hp, hw⟩ := hw.2
      refine r_getP C fl_RX11_54_10 hob hp (fun _ _ _ => rfl) dX11_judged_45 ?_
      refine r_getI C fl_RX11_238_8 hw.1 (fun _ _ _ => rfl) dX11_judged_48 ?_
      replace hw := hw.2
      exact r_iret C hr dX11_judged_51 hw
    by_cases hc1 : x1 = 1
    · replace hw := hw.2.1 hc1
      refine r_tableIn C dX11_judged_10 (by rw [hc1]; decide) (by rw [hc1]; decide) (by rw [hc1]; rfl) 52 (by decide) ?_
      refine r_aload_n C dX11_judged_52 0 rfl ?_
      have hob := hw.1
      obtain ⟨rv2, hp, hw⟩ := hw.2
      refine r_getP C fl_RX11_54_10 hob hp (fun _ _ _ => rfl) dX11_judged_53 ?_
      refine r_getI C fl_RX11_241_8 hw.1 (fun _ _ _ => rfl) dX11_judged_56 ?_
      replace hw := hw.2
      exact r_iret C hr dX11_judged_59 hw
    by_cases hc2 : x1 = 2
    · replace hw := hw.2.2.1 hc2
      refine r_tableIn C dX11_judged_10 (by rw [hc2]; decide) (by rw [hc2]; decide) (by rw [hc2]; rfl) 60 (by decide) ?_
      refine r_aload_n C dX11_judged_60 0 rfl ?_
      have hob := hw.1
      obtain ⟨rv3, hp, hw⟩ := hw.2
      refine r_getP C fl_RX11_54_10 hob hp (fun _ _ _ => rfl) dX11_judged_61 ?_
      refine r_getI C fl_RX11_244_8 hw.1 (fun _ _ _ => rfl) dX11_judged_64 ?_
      replace hw := hw.2
      exact r_iret C hr dX11_judged_67 hw
    by_cases hc3 : x1 = 3
    · replace hw := hw.2.2.2.1 hc3
      refine r_tableIn C dX11_judged_10 (by rw [hc3]; decide) (by rw [hc3]; decide) (by rw [hc3]; rfl) 68 (by decide) ?_
      refine r_aload_n C dX11_judged_68 0 rfl ?_
      have hob := hw.1
      obtain ⟨rv4, hp, hw⟩ := hw.2
      refine r_getP C fl_RX11_54_10 hob hp (fun _ _ _ => rfl) dX11_judged_69 ?_
      refine r_getI C fl_RX11_247_8 hw.1 (fun _ _ _ => rfl) dX11_judged_72 ?_
      replace hw := hw.2
      exact r_iret C hr dX11_judged_75 hw
    by_cases hc4 : x1 = 4
    · replace hw := hw.2.2.2.2.1 hc4
      refine r_tableIn C dX11_judged_10 (by rw [hc4]; decide) (by rw [hc4]; decide) (by rw [hc4]; rfl) 76 (by decide) ?_
      refine r_aload_n C dX11_judged_76 0 rfl ?_
      refine r_getI C fl_RX11_235_10 hw.1 (fun _ _ _ => rfl) dX11_judged_77 ?_
      replace hw := hw.2
      exact r_iret C hr dX11_judged_80 hw
    have hcd : x1.toInt < 0 ∨ 4 < x1.toInt := sw_out x1 4 (by decide) (fun k hk => match k, hk with | 0, _ => hc0 | 1, _ => hc1 | 2, _ => hc2 | 3, _ => hc3 | 4, _ => hc4 | k + 5, hk => absurd hk (by omega))
    replace hw := hw.2.2.2.2.2 hcd
    refine r_tableOut C dX11_judged_10 hcd 81 (by decide) ?_
    refine r_iconst (v := (-1)) C dX11_judged_81 (by decide) ?_
    exact r_iret C hr dX11_judged_82 hw
  · replace hw := hw.2 hc
    refine r_iconst (v := (-1)) C dX11_judged_7 (by decide) ?_
    exact r_iret C hr dX11_judged_8 hw
theorem dX11_partOfSpot_0 : decode cX11_partOfSpot 0 = .ok (.iload_n 1, 1) := by decide +kernel
theorem dX11_partOfSpot_1 : decode cX11_partOfSpot 1 = .ok (.tableswitch 44 0 2 #[27, 32, 39], 27) := by decide +kernel
theorem dX11_partOfSpot_28 : decode cX11_partOfSpot 28 = .ok (.iload_n 0, 1) := by decide +kernel
theorem dX11_partOfSpot_29 : decode cX11_partOfSpot 29 = .ok (.bipush 7, 2) := by decide +kernel
theorem dX11_partOfSpot_31 : decode cX11_partOfSpot 31 = .ok (.iand, 1) := by decide +kernel
theorem dX11_partOfSpot_32 : decode cX11_partOfSpot 32 = .ok (.ireturn, 1) := by decide +kernel
theorem dX11_partOfSpot_33 : decode cX11_partOfSpot 33 = .ok (.iload_n 0, 1) := by decide +kernel
theorem dX11_partOfSpot_34 : decode cX11_partOfSpot 34 = .ok (.iconst 3, 1) := by decide +kernel
theorem dX11_partOfSpot_35 : decode cX11_partOfSpot 35 = .ok (.ishr, 1) := by decide +kernel
theorem dX11_partOfSpot_36 : decode cX11_partOfSpot 36 = .ok (.bipush 7, 2) := by decide +kernel
theorem dX11_partOfSpot_38 : decode cX11_partOfSpot 38 = .ok (.iand, 1) := by decide +kernel
theorem dX11_partOfSpot_39 : decode cX11_partOfSpot 39 = .ok (.ireturn, 1) := by decide +kernel
theorem dX11_partOfSpot_40 : decode cX11_partOfSpot 40 = .ok (.iload_n 0, 1) := by decide +kernel
theorem dX11_partOfSpot_41 : decode cX11_partOfSpot 41 = .ok (.bipush 6, 2) := by decide +kernel
theorem dX11_partOfSpot_43 : decode cX11_partOfSpot 43 = .ok (.ishr, 1) := by decide +kernel
theorem dX11_partOfSpot_44 : decode cX11_partOfSpot 44 = .ok (.ireturn, 1) := by decide +kernel
theorem dX11_partOfSpot_45 : decode cX11_partOfSpot 45 = .ok (.iconst (-1), 1) := by decide +kernel
theorem dX11_partOfSpot_46 : decode cX11_partOfSpot 46 = .ok (.ireturn, 1) := by decide +kernel
def wp_X11_partOfSpot (h : AH) (x0 : Int32) (x1 : Int32) (post : AH → Int32 → Prop) : Prop := (x1 = 0 → (post h (x0 &&& (7 : Int32)))) ∧ (x1 = 1 → (post h ((x0 >>> ((3 : Int32) &&& 31)) &&& (7 : Int32)))) ∧ (x1 = 2 → (post h (x0 >>> ((6 : Int32) &&& 31)))) ∧ ((x1.toInt < 0 ∨ 2 < x1.toInt) → (post h (-1)))
set_option maxRecDepth 100000 in
theorem c_X11_partOfSpot (G : GG) (h : AH) (x0 : Int32) (x1 : Int32) (post : AH → Int32 → Prop) (hw : wp_X11_partOfSpot h x0 x1 post) : MC G yX11_partOfSpot cX11_partOfSpot 2 (some .int) 0 0 h [.int x0, .int x1] (pI post) := by
  refine MC.of (lv := [(0, .int x0), (1, .int x1)]) (by decide) (Nat.le_of_ble_eq_true rfl) rfl fun p l e R s m args below meth c C hr hnm => ?_
  unfold wp_X11_partOfSpot at hw
  refine r_iload_n C dX11_partOfSpot_0 1 rfl ?_
  by_cases hc0 : x1 = 0
  · replace hw := hw.1 hc0
    refine r_tableIn C dX11_partOfSpot_1 (by rw [hc0]; decide) (by rw [hc0]; decide) (by rw [hc0]; rfl) 28 (by decide) ?_
    refine r_iload_n C dX11_partOfSpot_28 0 rfl ?_
    refine r_bipush (v := 7) C dX11_partOfSpot_29 (by decide) ?_
    refine r_iand C dX11_partOfSpot_31 ?_
    exact r_iret C hr dX11_partOfSpot_32 hw
  by_cases hc1 : x1 = 1
  · replace hw := hw.2.1 hc1
    refine r_tableIn C dX11_partOfSpot_1 (by rw [hc1]; decide) (by rw [hc1]; decide) (by rw [hc1]; rfl) 33 (by decide) ?_
    refine r_iload_n C dX11_partOfSpot_33 0 rfl ?_
    refine r_iconst (v := 3) C dX11_partOfSpot_34 (by decide) ?_
    refine r_ishr C dX11_partOfSpot_35 ?_
    refine r_bipush (v := 7) C dX11_partOfSpot_36 (by decide) ?_
    refine r_iand C dX11_partOfSpot_38 ?_
    exact r_iret C hr dX11_partOfSpot_39 hw
  by_cases hc2 : x1 = 2
  · replace hw := hw.2.2.1 hc2
    refine r_tableIn C dX11_partOfSpot_1 (by rw [hc2]; decide) (by rw [hc2]; decide) (by rw [hc2]; rfl) 40 (by decide) ?_
    refine r_iload_n C dX11_partOfSpot_40 0 rfl ?_
    refine r_bipush (v := 6) C dX11_partOfSpot_41 (by decide) ?_
    refine r_ishr C dX11_partOfSpot_43 ?_
    exact r_iret C hr dX11_partOfSpot_44 hw
  have hcd : x1.toInt < 0 ∨ 2 < x1.toInt := sw_out x1 2 (by decide) (fun k hk => match k, hk with | 0, _ => hc0 | 1, _ => hc1 | 2, _ => hc2 | k + 3, hk => absurd hk (by omega))
  replace hw := hw.2.2.2 hcd
  refine r_tableOut C dX11_partOfSpot_1 hcd 45 (by decide) ?_
  refine r_iconst (v := (-1)) C dX11_partOfSpot_45 (by decide) ?_
  exact r_iret C hr dX11_partOfSpot_46 hw
theorem dX11_judgedAt_0 : decode cX11_judgedAt 0 = .ok (.aload_n 0, 1) := by decide +kernel
theorem dX11_judgedAt_1 : decode cX11_judgedAt 1 = .ok (.getfield 227, 3) := by decide +kernel
theorem dX11_judgedAt_4 : decode cX11_judgedAt 4 = .ok (.ifCond .eq 15, 3) := by decide +kernel
theorem dX11_judgedAt_7 : decode cX11_judgedAt 7 = .ok (.iload_n 1, 1) := by decide +kernel
theorem dX11_judgedAt_8 : decode cX11_judgedAt 8 = .ok (.ifCond .lt 11, 3) := by decide +kernel
theorem dX11_judgedAt_11 : decode cX11_judgedAt 11 = .ok (.iload_n 1, 1) := by decide +kernel
theorem dX11_judgedAt_12 : decode cX11_judgedAt 12 = .ok (.aload_n 0, 1) := by decide +kernel
theorem dX11_judgedAt_13 : decode cX11_judgedAt 13 = .ok (.getfield 231, 3) := by decide +kernel
theorem dX11_judgedAt_16 : decode cX11_judgedAt 16 = .ok (.if_icmp .lt 5, 3) := by decide +kernel
theorem dX11_judgedAt_19 : decode cX11_judgedAt 19 = .ok (.iconst (-1), 1) := by decide +kernel
theorem dX11_judgedAt_20 : decode cX11_judgedAt 20 = .ok (.ireturn, 1) := by decide +kernel
theorem dX11_judgedAt_21 : decode cX11_judgedAt 21 = .ok (.aload_n 0, 1) := by decide +kernel
theorem dX11_judgedAt_22 : decode cX11_judgedAt 22 = .ok (.getfield 54, 3) := by decide +kernel
theorem dX11_judgedAt_25 : decode cX11_judgedAt 25 = .ok (.getfield 234, 3) := by decide +kernel
theorem dX11_judgedAt_28 : decode cX11_judgedAt 28 = .ok (.getfield 135, 3) := by decide +kernel
theorem dX11_judgedAt_31 : decode cX11_judgedAt 31 = .ok (.iload_n 1, 1) := by decide +kernel
theorem dX11_judgedAt_32 : decode cX11_judgedAt 32 = .ok (.iaload, 1) := by decide +kernel
theorem dX11_judgedAt_33 : decode cX11_judgedAt 33 = .ok (.iload_n 2, 1) := by decide +kernel
theorem dX11_judgedAt_34 : decode cX11_judgedAt 34 = .ok (.invokestatic 250, 3) := by decide +kernel
theorem dX11_judgedAt_37 : decode cX11_judgedAt 37 = .ok (.ireturn, 1) := by decide +kernel
def wp_X11_judgedAt (h : AH) (a0 : Nat) (x1 : Int32) (x2 : Int32) (post : AH → Int32 → Prop) : Prop := (ob h a0 10) ∧ (((aI h a0 11) = 0 → (post h (-1))) ∧ (¬ (aI h a0 11) = 0 → ((x1 < 0 → (post h (-1))) ∧ (¬ x1 < 0 → ((ob h a0 10) ∧ ((x1 < (aI h a0 12) → ((ob h a0 10) ∧ (∃ rv1, aP h a0 8 = some rv1 ∧ ((ob h rv1 8) ∧ (∃ rv2, aP h rv1 0 = some rv2 ∧ ((ob h rv2 7) ∧ (∃ rv3, aP h rv2 1 = some rv3 ∧ ((ob h rv3 13) ∧ ((vp_in x1 (aL h rv3)) ∧ (wp_X11_partOfSpot h (aI h rv3 x1.toNatClampNeg) x2 (fun hv4 iv5 => post hv4 iv5))))))))))) ∧ (¬ x1 < (aI h a0 12) → (post h (-1)))))))))
set_option maxRecDepth 100000 in
theorem c_X11_judgedAt (G : GG) (h : AH) (a0 : Nat) (x1 : Int32) (x2 : Int32) (post : AH → Int32 → Prop) (hw : wp_X11_judgedAt h a0 x1 x2 post) : MC G yX11_judgedAt cX11_judgedAt 3 (some .int) 1 21 h [.ref (G.1 + a0), .int x1, .int x2] (pI post) := by
  refine MC.of (lv := [(0, .ref (G.1 + a0)), (1, .int x1), (2, .int x2)]) (by decide) (Nat.le_of_ble_eq_true rfl) rfl fun p l e R s m args below meth c C hr hnm => ?_
  unfold wp_X11_judgedAt at hw
  refine r_aload_n C dX11_judgedAt_0 0 rfl ?_
  refine r_getI C fl_RX11_227_10 hw.1 (fun _ _ _ => rfl) dX11_judgedAt_1 ?_
  replace hw := hw.2
  refine r_if_eq C dX11_judgedAt_4 19 (by decide) (fun hc => ?_) (fun hc => ?_)
  · replace hw := hw.1 hc
    refine r_iconst (v := (-1)) C dX11_judgedAt_19 (by decide) ?_
    exact r_iret C hr dX11_judgedAt_20 hw
  · replace hw := hw.2 hc
    refine r_iload_n C dX11_judgedAt_7 1 rfl ?_
    refine r_if_lt C dX11_judgedAt_8 19 (by decide) (fun hc => ?_) (fun hc => ?_)
    · replace hw := hw.1 hc
      refine r_iconst (v := (-1)) C dX11_judgedAt_19 (by decide) ?_
      exact r_iret C hr dX11_judgedAt_20 hw
    · replace hw := hw.2 hc
      refine r_iload_n C dX11_judgedAt_11 1 rfl ?_
      refine r_aload_n C dX11_judgedAt_12 0 rfl ?_
      refine r_getI C fl_RX11_231_10 hw.1 (fun _ _ _ => rfl) dX11_judgedAt_13 ?_
      replace hw := hw.2
      refine r_icmp_lt C dX11_judgedAt_16 21 (by decide) (fun hc => ?_) (fun hc => ?_)
      · replace hw := hw.1 hc
        refine r_aload_n C dX11_judgedAt_21 0 rfl ?_
        have hob := hw.1
        obtain ⟨rv1, hp, hw⟩ := hw.2
        refine r_getP C fl_RX11_54_10 hob hp (fun _ _ _ => rfl) dX11_judgedAt_22 ?_
        have hob := hw.1
        obtain ⟨rv2, hp, hw⟩ := hw.2
        refine r_getP C fl_RX11_234_8 hob hp (fun _ _ _ => rfl) dX11_judgedAt_25 ?_
        have hob := hw.1
        obtain ⟨rv3, hp, hw⟩ := hw.2
        refine r_getP C fl_RX11_135_7 hob hp (fun _ _ _ => rfl) dX11_judgedAt_28 ?_
        refine r_iload_n C dX11_judgedAt_31 1 rfl ?_
        refine r_iaload C hw.1 hw.2.1 dX11_judgedAt_32 ?_
        replace hw := hw.2.2
        refine r_iload_n C dX11_judgedAt_33 2 rfl ?_
        refine r_callS C (As := [.int (aI h rv3 x1.toNatClampNeg), .int x2]) (rest := []) (c_X11_partOfSpot G h (aI h rv3 x1.toNatClampNeg) x2 _ hw) yl_X11_partOfSpot (gm5 (List.mem_of_getElem? (i := 60) rfl) rfl) (gm5 (List.mem_of_getElem? (i := 61) rfl) rfl) (by decide) rfl (Nat.le_of_ble_eq_true rfl) dX11_judgedAt_34 rfl (kI fun hv4 iv5 hw => ?_)
        exact r_iret C hr dX11_judgedAt_37 hw
      · replace hw := hw.2 hc
        refine r_iconst (v := (-1)) C dX11_judgedAt_19 (by decide) ?_
        exact r_iret C hr dX11_judgedAt_20 hw
theorem dX11_tooMany_0 : decode cX11_tooMany 0 = .ok (.iload_n 1, 1) := by decide +kernel
theorem dX11_tooMany_1 : decode cX11_tooMany 1 = .ok (.invokestatic 217, 3) := by decide +kernel
theorem dX11_tooMany_4 : decode cX11_tooMany 4 = .ok (.ifCond .ne 6, 3) := by decide +kernel
theorem dX11_tooMany_7 : decode cX11_tooMany 7 = .ok (.bipush (-2), 2) := by decide +kernel
theorem dX11_tooMany_9 : decode cX11_tooMany 9 = .ok (.ireturn, 1) := by decide +kernel
theorem dX11_tooMany_10 : decode cX11_tooMany 10 = .ok (.aload_n 0, 1) := by decide +kernel
theorem dX11_tooMany_11 : decode cX11_tooMany 11 = .ok (.getfield 58, 3) := by decide +kernel
theorem dX11_tooMany_14 : decode cX11_tooMany 14 = .ok (.aload_n 0, 1) := by decide +kernel
theorem dX11_tooMany_15 : decode cX11_tooMany 15 = .ok (.getfield 30, 3) := by decide +kernel
theorem dX11_tooMany_18 : decode cX11_tooMany 18 = .ok (.getfield 40, 3) := by decide +kernel
theorem dX11_tooMany_21 : decode cX11_tooMany 21 = .ok (.aload_n 0, 1) := by decide +kernel
theorem dX11_tooMany_22 : decode cX11_tooMany 22 = .ok (.getfield 30, 3) := by decide +kernel
theorem dX11_tooMany_25 : decode cX11_tooMany 25 = .ok (.getfield 132, 3) := by decide +kernel
theorem dX11_tooMany_28 : decode cX11_tooMany 28 = .ok (.iload_n 1, 1) := by decide +kernel
theorem dX11_tooMany_29 : decode cX11_tooMany 29 = .ok (.invokevirtual 220, 3) := by decide +kernel
theorem dX11_tooMany_32 : decode cX11_tooMany 32 = .ok (.iconst 0, 1) := by decide +kernel
theorem dX11_tooMany_33 : decode cX11_tooMany 33 = .ok (.istore_n 2, 1) := by decide +kernel
theorem dX11_tooMany_34 : decode cX11_tooMany 34 = .ok (.iload_n 2, 1) := by decide +kernel
theorem dX11_tooMany_35 : decode cX11_tooMany 35 = .ok (.aload_n 0, 1) := by decide +kernel
theorem dX11_tooMany_36 : decode cX11_tooMany 36 = .ok (.getfield 30, 3) := by decide +kernel
theorem dX11_tooMany_39 : decode cX11_tooMany 39 = .ok (.getfield 212, 3) := by decide +kernel
theorem dX11_tooMany_42 : decode cX11_tooMany 42 = .ok (.if_icmp .ge 70, 3) := by decide +kernel
theorem dX11_tooMany_45 : decode cX11_tooMany 45 = .ok (.aload_n 0, 1) := by decide +kernel
theorem dX11_tooMany_46 : decode cX11_tooMany 46 = .ok (.getfield 61, 3) := by decide +kernel
theorem dX11_tooMany_49 : decode cX11_tooMany 49 = .ok (.aload_n 0, 1) := by decide +kernel
theorem dX11_tooMany_50 : decode cX11_tooMany 50 = .ok (.getfield 58, 3) := by decide +kernel
theorem dX11_tooMany_53 : decode cX11_tooMany 53 = .ok (.invokevirtual 253, 3) := by decide +kernel
theorem dX11_tooMany_56 : decode cX11_tooMany 56 = .ok (.aload_n 0, 1) := by decide +kernel
theorem dX11_tooMany_57 : decode cX11_tooMany 57 = .ok (.getfield 61, 3) := by decide +kernel
theorem dX11_tooMany_60 : decode cX11_tooMany 60 = .ok (.aload_n 0, 1) := by decide +kernel
theorem dX11_tooMany_61 : decode cX11_tooMany 61 = .ok (.getfield 30, 3) := by decide +kernel
theorem dX11_tooMany_64 : decode cX11_tooMany 64 = .ok (.iload_n 2, 1) := by decide +kernel
theorem dX11_tooMany_65 : decode cX11_tooMany 65 = .ok (.iconst 1, 1) := by decide +kernel
theorem dX11_tooMany_66 : decode cX11_tooMany 66 = .ok (.iadd, 1) := by decide +kernel
theorem dX11_tooMany_67 : decode cX11_tooMany 67 = .ok (.invokevirtual 223, 3) := by decide +kernel
theorem dX11_tooMany_70 : decode cX11_tooMany 70 = .ok (.iconst (-1), 1) := by decide +kernel
theorem dX11_tooMany_71 : decode cX11_tooMany 71 = .ok (.if_icmp .ne 5, 3) := by decide +kernel
theorem dX11_tooMany_74 : decode cX11_tooMany 74 = .ok (.iload_n 2, 1) := by decide +kernel
theorem dX11_tooMany_75 : decode cX11_tooMany 75 = .ok (.ireturn, 1) := by decide +kernel
theorem dX11_tooMany_76 : decode cX11_tooMany 76 = .ok (.aload_n 0, 1) := by decide +kernel
theorem dX11_tooMany_77 : decode cX11_tooMany 77 = .ok (.getfield 58, 3) := by decide +kernel
theorem dX11_tooMany_80 : decode cX11_tooMany 80 = .ok (.aload_n 0, 1) := by decide +kernel
theorem dX11_tooMany_81 : decode cX11_tooMany 81 = .ok (.getfield 30, 3) := by decide +kernel
theorem dX11_tooMany_84 : decode cX11_tooMany 84 = .ok (.getfield 215, 3) := by decide +kernel
theorem dX11_tooMany_87 : decode cX11_tooMany 87 = .ok (.iload_n 2, 1) := by decide +kernel
theorem dX11_tooMany_88 : decode cX11_tooMany 88 = .ok (.iaload, 1) := by decide +kernel
theorem dX11_tooMany_89 : decode cX11_tooMany 89 = .ok (.aload_n 0, 1) := by decide +kernel
theorem dX11_tooMany_90 : decode cX11_tooMany 90 = .ok (.getfield 30, 3) := by decide +kernel
theorem dX11_tooMany_93 : decode cX11_tooMany 93 = .ok (.getfield 216, 3) := by decide +kernel
theorem dX11_tooMany_96 : decode cX11_tooMany 96 = .ok (.iload_n 2, 1) := by decide +kernel
theorem dX11_tooMany_97 : decode cX11_tooMany 97 = .ok (.iaload, 1) := by decide +kernel
theorem dX11_tooMany_98 : decode cX11_tooMany 98 = .ok (.invokevirtual 256, 3) := by decide +kernel
theorem dX11_tooMany_101 : decode cX11_tooMany 101 = .ok (.ifCond .ne 5, 3) := by decide +kernel
theorem dX11_tooMany_104 : decode cX11_tooMany 104 = .ok (.iconst (-1), 1) := by decide +kernel
theorem dX11_tooMany_105 : decode cX11_tooMany 105 = .ok (.ireturn, 1) := by decide +kernel
theorem dX11_tooMany_106 : decode cX11_tooMany 106 = .ok (.iinc 2 1, 3) := by decide +kernel
theorem dX11_tooMany_109 : decode cX11_tooMany 109 = .ok (.goto (-75), 3) := by decide +kernel
theorem dX11_tooMany_112 : decode cX11_tooMany 112 = .ok (.iconst (-1), 1) := by decide +kernel
theorem dX11_tooMany_113 : decode cX11_tooMany 113 = .ok (.ireturn, 1) := by decide +kernel
def wb_X11_tooMany_34 (K34 : AH → Nat → Int32 → Prop) (h : AH) (al0 : Nat) (xl2 : Int32)  (post : AH → Int32 → Prop) : Prop := (ob h al0 10) ∧ (∃ rv1, aP h al0 5 = some rv1 ∧ ((ob h rv1 5) ∧ (((aI h rv1 2) ≤ xl2 → (post h (-1))) ∧ (¬ (aI h rv1 2) ≤ xl2 → ((ob h al0 10) ∧ (∃ rv2, aP h al0 10 = some rv2 ∧ ((ob h al0 10) ∧ (∃ rv3, aP h al0 9 = some rv3 ∧ ((ob h rv2 8) ∧ wp_X9_follow h rv2 rv3 (fun hv4  => (ob hv4 al0 10) ∧ (∃ rv5, aP hv4 al0 10 = some rv5 ∧ ((ob hv4 al0 10) ∧ (∃ rv6, aP hv4 al0 5 = some rv6 ∧ ((ob hv4 rv5 8) ∧ wp_X9_runFrom hv4 rv5 rv6 (xl2 + (1 : Int32)) (fun hv7 iv8 => (¬ iv8 = (-1) → ((ob hv7 al0 10) ∧ (∃ rv9, aP hv7 al0 9 = some rv9 ∧ ((ob hv7 al0 10) ∧ (∃ rv10, aP hv7 al0 5 = some rv10 ∧ ((ob hv7 rv10 5) ∧ (∃ rv11, aP hv7 rv10 3 = some rv11 ∧ ((ob hv7 rv11 13) ∧ ((vp_in xl2 (aL hv7 rv11)) ∧ ((ob hv7 al0 10) ∧ (∃ rv12, aP hv7 al0 5 = some rv12 ∧ ((ob hv7 rv12 5) ∧ (∃ rv13, aP hv7 rv12 4 = some rv13 ∧ ((ob hv7 rv13 13) ∧ ((vp_in xl2 (aL hv7 rv13)) ∧ ((ob hv7 rv9 8) ∧ wp_X9_step hv7 rv9 (aI hv7 rv11 xl2.toNatClampNeg) (aI hv7 rv13 xl2.toNatClampNeg) (fun hv14 iv15 => (¬ iv15 = 0 → (∀ iv16 : Int32, iv16 = xl2 + 1 → (K34 hv14 al0 iv16))) ∧ (iv15 = 0 → (post hv14 (-1)))))))))))))))))))) ∧ (iv8 = (-1) → (post hv7 xl2)))))))))))))))))
set_option maxRecDepth 100000 in
theorem tb_X11_tooMany_34 {G : GG} {p : Program} {l : Launch} {e : Env} {R : Room} {s : State} {m : MethodId} {args : Array Value} {below : List Frame} {meth : Method} {c : Code} {n0 s0 : Nat} {post : AH → Int32 → Prop} (C : Cx G p R s m args meth c 3 cX11_tooMany RX11 n0 s0 6 149) (hr : meth.sig.returnType = (some .int)) {K34 : AH → Nat → Int32 → Prop} (hK34 : ∀ (h : AH) (al0 : Nat) (xl2 : Int32), K34 h al0 xl2 → AW G p l e R s m args below meth c 3 (QM G (pI post) args s below n0 s0) 34 [(0, .ref (G.1 + al0)), (2, .int xl2)] [] h) {h : AH} {al0 : Nat} {xl2 : Int32}  (hw : wb_X11_tooMany_34 K34 h al0 xl2 post) : AW G p l e R s m args below meth c 3 (QM G (pI post) args s below n0 s0) 34 [(0, .ref (G.1 + al0)), (2, .int xl2)] [] h := by
  unfold wb_X11_tooMany_34 at hw
  refine r_iload_n C dX11_tooMany_34 1 rfl ?_
  refine r_aload_n C dX11_tooMany_35 0 rfl ?_
  have hob := hw.1
  obtain ⟨rv1, hp, hw⟩ := hw.2
  refine r_getP C fl_RX11_30_10 hob hp (fun _ _ _ => rfl) dX11_tooMany_36 ?_
  refine r_getI C fl_RX11_212_5 hw.1 (fun _ _ _ => rfl) dX11_tooMany_39 ?_
  replace hw := hw.2
  refine r_icmp_ge C dX11_tooMany_42 112 (by decide) (fun hc => ?_) (fun hc => ?_)
  · replace hw := hw.1 hc
    refine r_iconst (v := (-1)) C dX11_tooMany_112 (by decide) ?_
    exact r_iret C hr dX11_tooMany_113 hw
  · replace hw := hw.2 hc
    refine r_aload_n C dX11_tooMany_45 0 rfl ?_
    have hob := hw.1
    obtain ⟨rv2, hp, hw⟩ := hw.2
    refine r_getP C fl_RX11_61_10 hob hp (fun _ _ _ => rfl) dX11_tooMany_46 ?_
    refine r_aload_n C dX11_tooMany_49 0 rfl ?_
    have hob := hw.1
    obtain ⟨rv3, hp, hw⟩ := hw.2
    refine r_getP C fl_RX11_58_10 hob hp (fun _ _ _ => rfl) dX11_tooMany_50 ?_
    have hob := hw.1
    replace hw := hw.2
    refine r_callV C (As := [.ref (G.1 + rv3)]) (rest := []) (c_X9_follow G h rv2 rv3 _ hw) yl_X9_follow (gm5 (List.mem_of_getElem? (i := 67) rfl) rfl) (gm5 (List.mem_of_getElem? (i := 68) rfl) rfl) (ci := 8) rfl (by decide) (gm5 (List.mem_of_getElem? (i := 69) rfl) rfl) hob (by decide) rfl (Nat.le_of_ble_eq_true rfl) dX11_tooMany_53 rfl (kV fun hv4  hw => ?_)
    refine r_aload_n C dX11_tooMany_56 0 rfl ?_
    have hob := hw.1
    obtain ⟨rv5, hp, hw⟩ := hw.2
    refine r_getP C fl_RX11_61_10 hob hp (fun _ _ _ => rfl) dX11_tooMany_57 ?_
    refine r_aload_n C dX11_tooMany_60 0 rfl ?_
    have hob := hw.1
    obtain ⟨rv6, hp, hw⟩ := hw.2
    refine r_getP C fl_RX11_30_10 hob hp (fun _ _ _ => rfl) dX11_tooMany_61 ?_
    refine r_iload_n C dX11_tooMany_64 1 rfl ?_
    refine r_iconst (v := 1) C dX11_tooMany_65 (by decide) ?_
    refine r_iadd C dX11_tooMany_66 ?_
    have hob := hw.1
    replace hw := hw.2
    refine r_callV C (As := [.ref (G.1 + rv6), .int (xl2 + (1 : Int32))]) (rest := []) (c_X9_runFrom G hv4 rv5 rv6 (xl2 + (1 : Int32)) _ hw) yl_X9_runFrom (gm5 (List.mem_of_getElem? (i := 34) rfl) rfl) (gm5 (List.mem_of_getElem? (i := 35) rfl) rfl) (ci := 8) rfl (by decide) (gm5 (List.mem_of_getElem? (i := 36) rfl) rfl) hob (by decide) rfl (Nat.le_of_ble_eq_true rfl) dX11_tooMany_67 rfl (kI fun hv7 iv8 hw => ?_)
    refine r_iconst (v := (-1)) C dX11_tooMany_70 (by decide) ?_
    refine r_icmp_ne C dX11_tooMany_71 76 (by decide) (fun hc => ?_) (fun hc => ?_)
    · replace hw := hw.1 hc
      refine r_aload_n C dX11_tooMany_76 0 rfl ?_
      have hob := hw.1
      obtain ⟨rv9, hp, hw⟩ := hw.2
      refine r_getP C fl_RX11_58_10 hob hp (fun _ _ _ => rfl) dX11_tooMany_77 ?_
      refine r_aload_n C dX11_tooMany_80 0 rfl ?_
      have hob := hw.1
      obtain ⟨rv10, hp, hw⟩ := hw.2
      refine r_getP C fl_RX11_30_10 hob hp (fun _ _ _ => rfl) dX11_tooMany_81 ?_
      have hob := hw.1
      obtain ⟨rv11, hp, hw⟩ := hw.2
      refine r_getP C fl_RX11_215_5 hob hp (fun _ _ _ => rfl) dX11_tooMany_84 ?_
      refine r_iload_n C dX11_tooMany_87 1 rfl ?_
      refine r_iaload C hw.1 hw.2.1 dX11_tooMany_88 ?_
      replace hw := hw.2.2
      refine r_aload_n C dX11_tooMany_89 0 rfl ?_
      have hob := hw.1
      obtain ⟨rv12, hp, hw⟩ := hw.2
      refine r_getP C fl_RX11_30_10 hob hp (fun _ _ _ => rfl) dX11_tooMany_90 ?_
      have hob := hw.1
      obtain ⟨rv13, hp, hw⟩ := hw.2
      refine r_getP C fl_RX11_216_5 hob hp (fun _ _ _ => rfl) dX11_tooMany_93 ?_
      refine r_iload_n C dX11_tooMany_96 1 rfl ?_
      refine r_iaload C hw.1 hw.2.1 dX11_tooMany_97 ?_
      replace hw := hw.2.2
      have hob := hw.1
      replace hw := hw.2
      refine r_callV C (As := [.int (aI hv7 rv11 xl2.toNatClampNeg), .int (aI hv7 rv13 xl2.toNatClampNeg)]) (rest := []) (c_X9_step G hv7 rv9 (aI hv7 rv11 xl2.toNatClampNeg) (aI hv7 rv13 xl2.toNatClampNeg) _ hw) yl_X9_step (gm5 (List.mem_of_getElem? (i := 71) rfl) rfl) (gm5 (List.mem_of_getElem? (i := 39) rfl) rfl) (ci := 8) rfl (by decide) (gm5 (List.mem_of_getElem? (i := 40) rfl) rfl) hob (by decide) rfl (Nat.le_of_ble_eq_true rfl) dX11_tooMany_98 rfl (kI fun hv14 iv15 hw => ?_)
      refine r_if_ne C dX11_tooMany_101 106 (by decide) (fun hc => ?_) (fun hc => ?_)
      · replace hw := hw.1 hc
        obtain ⟨iv16, eiv16⟩ : ∃ q : Int32, q = xl2 + 1 := ⟨_, rfl⟩
        replace hw := hw iv16 eiv16
        refine r_iinc C dX11_tooMany_106 1 rfl (by rw [eiv16]; rfl) [(2, .int iv16), (0, .ref (G.1 + al0))] (by decide) rfl ?_
        refine r_goto C dX11_tooMany_109 34 (by decide) ?_
        refine r_sub [1, 0] rfl ?_
        exact hK34 _ _ _ hw
      · replace hw := hw.2 hc
        refine r_iconst (v := (-1)) C dX11_tooMany_104 (by decide) ?_
        exact r_iret C hr dX11_tooMany_105 hw
    · replace hw := hw.2 hc
      refine r_iload_n C dX11_tooMany_74 1 rfl ?_
      exact r_iret C hr dX11_tooMany_75 hw
def wl_X11_tooMany_34  (post : AH → Int32 → Prop) : Nat → AH → Nat → Int32 → Prop
  | 0 => fun _ _ _ => False
  | n + 1 => fun h al0 xl2 => wb_X11_tooMany_34  (wl_X11_tooMany_34  post n) h al0 xl2 post
theorem tl_X11_tooMany_34 {G : GG} {p : Program} {l : Launch} {e : Env} {R : Room} {s : State} {m : MethodId} {args : Array Value} {below : List Frame} {meth : Method} {c : Code} {n0 s0 : Nat} {post : AH → Int32 → Prop} (C : Cx G p R s m args meth c 3 cX11_tooMany RX11 n0 s0 6 149) (hr : meth.sig.returnType = (some .int))   : ∀ (n : Nat) (h : AH) (al0 : Nat) (xl2 : Int32), wl_X11_tooMany_34  post n h al0 xl2 → AW G p l e R s m args below meth c 3 (QM G (pI post) args s below n0 s0) 34 [(0, .ref (G.1 + al0)), (2, .int xl2)] [] h := by
  intro n
  induction n with
  | zero => intro h al0 xl2 hw; exact hw.elim
  | succ n ih => intro h al0 xl2 hw; exact tb_X11_tooMany_34 C hr  ih hw
def wp_X11_tooMany (h : AH) (a0 : Nat) (x1 : Int32) (post : AH → Int32 → Prop) : Prop := wp_X11_isQuarter h x1 (fun hv1 iv2 => (¬ iv2 = 0 → ((ob hv1 a0 10) ∧ (∃ rv3, aP hv1 a0 9 = some rv3 ∧ ((ob hv1 a0 10) ∧ (∃ rv4, aP hv1 a0 5 = some rv4 ∧ ((ob hv1 rv4 5) ∧ (∃ rv5, aP hv1 rv4 0 = some rv5 ∧ ((ob hv1 a0 10) ∧ (∃ rv6, aP hv1 a0 5 = some rv6 ∧ ((ob hv1 rv6 5) ∧ (∃ rv7, aP hv1 rv6 1 = some rv7 ∧ ((ob hv1 rv3 8) ∧ wp_X9_begin hv1 rv3 rv5 rv7 x1 (fun hv8  => ∃ n, wl_X11_tooMany_34  post n hv8 a0 0))))))))))))) ∧ (iv2 = 0 → (post hv1 (-2))))
set_option maxRecDepth 100000 in
theorem c_X11_tooMany (G : GG) (h : AH) (a0 : Nat) (x1 : Int32) (post : AH → Int32 → Prop) (hw : wp_X11_tooMany h a0 x1 post) : MC G yX11_tooMany cX11_tooMany 3 (some .int) 6 149 h [.ref (G.1 + a0), .int x1] (pI post) := by
  refine MC.of (lv := [(0, .ref (G.1 + a0)), (1, .int x1)]) (by decide) (Nat.le_of_ble_eq_true rfl) rfl fun p l e R s m args below meth c C hr hnm => ?_
  unfold wp_X11_tooMany at hw
  refine r_iload_n C dX11_tooMany_0 1 rfl ?_
  refine r_callS C (As := [.int x1]) (rest := []) (c_X11_isQuarter G h x1 _ hw) yl_X11_isQuarter (gm5 (List.mem_of_getElem? (i := 26) rfl) rfl) (gm5 (List.mem_of_getElem? (i := 27) rfl) rfl) (by decide) rfl (Nat.le_of_ble_eq_true rfl) dX11_tooMany_1 rfl (kI fun hv1 iv2 hw => ?_)
  refine r_if_ne C dX11_tooMany_4 10 (by decide) (fun hc => ?_) (fun hc => ?_)
  · replace hw := hw.1 hc
    refine r_aload_n C dX11_tooMany_10 0 rfl ?_
    have hob := hw.1
    obtain ⟨rv3, hp, hw⟩ := hw.2
    refine r_getP C fl_RX11_58_10 hob hp (fun _ _ _ => rfl) dX11_tooMany_11 ?_
    refine r_aload_n C dX11_tooMany_14 0 rfl ?_
    have hob := hw.1
    obtain ⟨rv4, hp, hw⟩ := hw.2
    refine r_getP C fl_RX11_30_10 hob hp (fun _ _ _ => rfl) dX11_tooMany_15 ?_
    have hob := hw.1
    obtain ⟨rv5, hp, hw⟩ := hw.2
    refine r_getP C fl_RX11_40_5 hob hp (fun _ _ _ => rfl) dX11_tooMany_18 ?_
    refine r_aload_n C dX11_tooMany_21 0 rfl ?_
    have hob := hw.1
    obtain ⟨rv6, hp, hw⟩ := hw.2
    refine r_getP C fl_RX11_30_10 hob hp (fun _ _ _ => rfl) dX11_tooMany_22 ?_
    have hob := hw.1
    obtain ⟨rv7, hp, hw⟩ := hw.2
    refine r_getP C fl_RX11_132_5 hob hp (fun _ _ _ => rfl) dX11_tooMany_25 ?_
    refine r_iload_n C dX11_tooMany_28 1 rfl ?_
    have hob := hw.1
    replace hw := hw.2
    refine r_callV C (As := [.ref (G.1 + rv5), .ref (G.1 + rv7), .int x1]) (rest := []) (c_X9_begin G hv1 rv3 rv5 rv7 x1 _ hw) yl_X9_begin (gm5 (List.mem_of_getElem? (i := 29) rfl) rfl) (gm5 (List.mem_of_getElem? (i := 30) rfl) rfl) (ci := 8) rfl (by decide) (gm5 (List.mem_of_getElem? (i := 31) rfl) rfl) hob (by decide) rfl (Nat.le_of_ble_eq_true rfl) dX11_tooMany_29 rfl (kV fun hv8  hw => ?_)
    refine r_iconst (v := 0) C dX11_tooMany_32 (by decide) ?_
    refine r_istore_n C dX11_tooMany_33 [(2, .int 0), (0, .ref (G.1 + a0)), (1, .int x1)] (by decide) rfl ?_
    refine r_sub [1, 0] rfl ?_
    obtain ⟨n, hw⟩ := hw
    exact tl_X11_tooMany_34 C hr  n _ _ _ hw
  · replace hw := hw.2 hc
    refine r_bipush (v := (-2)) C dX11_tooMany_7 (by decide) ?_
    exact r_iret C hr dX11_tooMany_9 hw
theorem dX11_instead_0 : decode cX11_instead 0 = .ok (.iload_n 1, 1) := by decide +kernel
theorem dX11_instead_1 : decode cX11_instead 1 = .ok (.invokestatic 217, 3) := by decide +kernel
theorem dX11_instead_4 : decode cX11_instead 4 = .ok (.ifCond .ne 6, 3) := by decide +kernel
theorem dX11_instead_7 : decode cX11_instead 7 = .ok (.bipush (-2), 2) := by decide +kernel
theorem dX11_instead_9 : decode cX11_instead 9 = .ok (.ireturn, 1) := by decide +kernel
theorem dX11_instead_10 : decode cX11_instead 10 = .ok (.aload_n 0, 1) := by decide +kernel
theorem dX11_instead_11 : decode cX11_instead 11 = .ok (.getfield 58, 3) := by decide +kernel
theorem dX11_instead_14 : decode cX11_instead 14 = .ok (.aload_n 0, 1) := by decide +kernel
theorem dX11_instead_15 : decode cX11_instead 15 = .ok (.getfield 30, 3) := by decide +kernel
theorem dX11_instead_18 : decode cX11_instead 18 = .ok (.getfield 40, 3) := by decide +kernel
theorem dX11_instead_21 : decode cX11_instead 21 = .ok (.aload_n 0, 1) := by decide +kernel
theorem dX11_instead_22 : decode cX11_instead 22 = .ok (.getfield 30, 3) := by decide +kernel
theorem dX11_instead_25 : decode cX11_instead 25 = .ok (.getfield 132, 3) := by decide +kernel
theorem dX11_instead_28 : decode cX11_instead 28 = .ok (.iload_n 1, 1) := by decide +kernel
theorem dX11_instead_29 : decode cX11_instead 29 = .ok (.invokevirtual 220, 3) := by decide +kernel
theorem dX11_instead_32 : decode cX11_instead 32 = .ok (.iconst 0, 1) := by decide +kernel
theorem dX11_instead_33 : decode cX11_instead 33 = .ok (.istore_n 2, 1) := by decide +kernel
theorem dX11_instead_34 : decode cX11_instead 34 = .ok (.iload_n 2, 1) := by decide +kernel
theorem dX11_instead_35 : decode cX11_instead 35 = .ok (.aload_n 0, 1) := by decide +kernel
theorem dX11_instead_36 : decode cX11_instead 36 = .ok (.getfield 30, 3) := by decide +kernel
theorem dX11_instead_39 : decode cX11_instead 39 = .ok (.getfield 212, 3) := by decide +kernel
theorem dX11_instead_42 : decode cX11_instead 42 = .ok (.if_icmp .ge 134, 3) := by decide +kernel
theorem dX11_instead_45 : decode cX11_instead 45 = .ok (.iconst 0, 1) := by decide +kernel
theorem dX11_instead_46 : decode cX11_instead 46 = .ok (.istore_n 3, 1) := by decide +kernel
theorem dX11_instead_47 : decode cX11_instead 47 = .ok (.iload_n 3, 1) := by decide +kernel
theorem dX11_instead_48 : decode cX11_instead 48 = .ok (.iconst 5, 1) := by decide +kernel
theorem dX11_instead_49 : decode cX11_instead 49 = .ok (.if_icmp .ge 91, 3) := by decide +kernel
theorem dX11_instead_52 : decode cX11_instead 52 = .ok (.aload_n 0, 1) := by decide +kernel
theorem dX11_instead_53 : decode cX11_instead 53 = .ok (.getfield 30, 3) := by decide +kernel
theorem dX11_instead_56 : decode cX11_instead 56 = .ok (.getfield 215, 3) := by decide +kernel
theorem dX11_instead_59 : decode cX11_instead 59 = .ok (.iload_n 2, 1) := by decide +kernel
theorem dX11_instead_60 : decode cX11_instead 60 = .ok (.iaload, 1) := by decide +kernel
theorem dX11_instead_61 : decode cX11_instead 61 = .ok (.iconst 5, 1) := by decide +kernel
theorem dX11_instead_62 : decode cX11_instead 62 = .ok (.if_icmp .eq 78, 3) := by decide +kernel
theorem dX11_instead_65 : decode cX11_instead 65 = .ok (.aload_n 0, 1) := by decide +kernel
theorem dX11_instead_66 : decode cX11_instead 66 = .ok (.getfield 61, 3) := by decide +kernel
theorem dX11_instead_69 : decode cX11_instead 69 = .ok (.aload_n 0, 1) := by decide +kernel
theorem dX11_instead_70 : decode cX11_instead 70 = .ok (.getfield 58, 3) := by decide +kernel
theorem dX11_instead_73 : decode cX11_instead 73 = .ok (.invokevirtual 253, 3) := by decide +kernel
theorem dX11_instead_76 : decode cX11_instead 76 = .ok (.iload_n 3, 1) := by decide +kernel
theorem dX11_instead_77 : decode cX11_instead 77 = .ok (.aload_n 0, 1) := by decide +kernel
theorem dX11_instead_78 : decode cX11_instead 78 = .ok (.getfield 30, 3) := by decide +kernel
theorem dX11_instead_81 : decode cX11_instead 81 = .ok (.getfield 215, 3) := by decide +kernel
theorem dX11_instead_84 : decode cX11_instead 84 = .ok (.iload_n 2, 1) := by decide +kernel
theorem dX11_instead_85 : decode cX11_instead 85 = .ok (.iaload, 1) := by decide +kernel
theorem dX11_instead_86 : decode cX11_instead 86 = .ok (.if_icmp .eq 48, 3) := by decide +kernel
theorem dX11_instead_89 : decode cX11_instead 89 = .ok (.aload_n 0, 1) := by decide +kernel
theorem dX11_instead_90 : decode cX11_instead 90 = .ok (.getfield 61, 3) := by decide +kernel
theorem dX11_instead_93 : decode cX11_instead 93 = .ok (.iload_n 3, 1) := by decide +kernel
theorem dX11_instead_94 : decode cX11_instead 94 = .ok (.aload_n 0, 1) := by decide +kernel
theorem dX11_instead_95 : decode cX11_instead 95 = .ok (.getfield 30, 3) := by decide +kernel
theorem dX11_instead_98 : decode cX11_instead 98 = .ok (.getfield 216, 3) := by decide +kernel
theorem dX11_instead_101 : decode cX11_instead 101 = .ok (.iload_n 2, 1) := by decide +kernel
theorem dX11_instead_102 : decode cX11_instead 102 = .ok (.iaload, 1) := by decide +kernel
theorem dX11_instead_103 : decode cX11_instead 103 = .ok (.invokevirtual 256, 3) := by decide +kernel
theorem dX11_instead_106 : decode cX11_instead 106 = .ok (.ifCond .eq 28, 3) := by decide +kernel
theorem dX11_instead_109 : decode cX11_instead 109 = .ok (.aload_n 0, 1) := by decide +kernel
theorem dX11_instead_110 : decode cX11_instead 110 = .ok (.getfield 61, 3) := by decide +kernel
theorem dX11_instead_113 : decode cX11_instead 113 = .ok (.aload_n 0, 1) := by decide +kernel
theorem dX11_instead_114 : decode cX11_instead 114 = .ok (.getfield 30, 3) := by decide +kernel
theorem dX11_instead_117 : decode cX11_instead 117 = .ok (.iload_n 2, 1) := by decide +kernel
theorem dX11_instead_118 : decode cX11_instead 118 = .ok (.iconst 1, 1) := by decide +kernel
theorem dX11_instead_119 : decode cX11_instead 119 = .ok (.iadd, 1) := by decide +kernel
theorem dX11_instead_120 : decode cX11_instead 120 = .ok (.invokevirtual 223, 3) := by decide +kernel
theorem dX11_instead_123 : decode cX11_instead 123 = .ok (.iconst (-1), 1) := by decide +kernel
theorem dX11_instead_124 : decode cX11_instead 124 = .ok (.if_icmp .ne 10, 3) := by decide +kernel
theorem dX11_instead_127 : decode cX11_instead 127 = .ok (.bipush 10, 2) := by decide +kernel
theorem dX11_instead_129 : decode cX11_instead 129 = .ok (.iload_n 2, 1) := by decide +kernel
theorem dX11_instead_130 : decode cX11_instead 130 = .ok (.imul, 1) := by decide +kernel
theorem dX11_instead_131 : decode cX11_instead 131 = .ok (.iload_n 3, 1) := by decide +kernel
theorem dX11_instead_132 : decode cX11_instead 132 = .ok (.iadd, 1) := by decide +kernel
theorem dX11_instead_133 : decode cX11_instead 133 = .ok (.ireturn, 1) := by decide +kernel
theorem dX11_instead_134 : decode cX11_instead 134 = .ok (.iinc 3 1, 3) := by decide +kernel
theorem dX11_instead_137 : decode cX11_instead 137 = .ok (.goto (-90), 3) := by decide +kernel
theorem dX11_instead_140 : decode cX11_instead 140 = .ok (.aload_n 0, 1) := by decide +kernel
theorem dX11_instead_141 : decode cX11_instead 141 = .ok (.getfield 58, 3) := by decide +kernel
theorem dX11_instead_144 : decode cX11_instead 144 = .ok (.aload_n 0, 1) := by decide +kernel
theorem dX11_instead_145 : decode cX11_instead 145 = .ok (.getfield 30, 3) := by decide +kernel
theorem dX11_instead_148 : decode cX11_instead 148 = .ok (.getfield 215, 3) := by decide +kernel
theorem dX11_instead_151 : decode cX11_instead 151 = .ok (.iload_n 2, 1) := by decide +kernel
theorem dX11_instead_152 : decode cX11_instead 152 = .ok (.iaload, 1) := by decide +kernel
theorem dX11_instead_153 : decode cX11_instead 153 = .ok (.aload_n 0, 1) := by decide +kernel
theorem dX11_instead_154 : decode cX11_instead 154 = .ok (.getfield 30, 3) := by decide +kernel
theorem dX11_instead_157 : decode cX11_instead 157 = .ok (.getfield 216, 3) := by decide +kernel
theorem dX11_instead_160 : decode cX11_instead 160 = .ok (.iload_n 2, 1) := by decide +kernel
theorem dX11_instead_161 : decode cX11_instead 161 = .ok (.iaload, 1) := by decide +kernel
theorem dX11_instead_162 : decode cX11_instead 162 = .ok (.invokevirtual 256, 3) := by decide +kernel
theorem dX11_instead_165 : decode cX11_instead 165 = .ok (.ifCond .ne 5, 3) := by decide +kernel
theorem dX11_instead_168 : decode cX11_instead 168 = .ok (.iconst (-1), 1) := by decide +kernel
theorem dX11_instead_169 : decode cX11_instead 169 = .ok (.ireturn, 1) := by decide +kernel
theorem dX11_instead_170 : decode cX11_instead 170 = .ok (.iinc 2 1, 3) := by decide +kernel
theorem dX11_instead_173 : decode cX11_instead 173 = .ok (.goto (-139), 3) := by decide +kernel
theorem dX11_instead_176 : decode cX11_instead 176 = .ok (.iconst (-1), 1) := by decide +kernel
theorem dX11_instead_177 : decode cX11_instead 177 = .ok (.ireturn, 1) := by decide +kernel
def wb_X11_instead_140 (K34 : AH → Nat → Int32 → Prop) (h : AH) (al0 : Nat) (xl2 : Int32)  (post : AH → Int32 → Prop) : Prop := (ob h al0 10) ∧ (∃ rv1, aP h al0 9 = some rv1 ∧ ((ob h al0 10) ∧ (∃ rv2, aP h al0 5 = some rv2 ∧ ((ob h rv2 5) ∧ (∃ rv3, aP h rv2 3 = some rv3 ∧ ((ob h rv3 13) ∧ ((vp_in xl2 (aL h rv3)) ∧ ((ob h al0 10) ∧ (∃ rv4, aP h al0 5 = some rv4 ∧ ((ob h rv4 5) ∧ (∃ rv5, aP h rv4 4 = some rv5 ∧ ((ob h rv5 13) ∧ ((vp_in xl2 (aL h rv5)) ∧ ((ob h rv1 8) ∧ wp_X9_step h rv1 (aI h rv3 xl2.toNatClampNeg) (aI h rv5 xl2.toNatClampNeg) (fun hv6 iv7 => (¬ iv7 = 0 → (∀ iv8 : Int32, iv8 = xl2 + 1 → (K34 hv6 al0 iv8))) ∧ (iv7 = 0 → (post hv6 (-1))))))))))))))))))
set_option maxRecDepth 100000 in
theorem tb_X11_instead_140 {G : GG} {p : Program} {l : Launch} {e : Env} {R : Room} {s : State} {m : MethodId} {args : Array Value} {below : List Frame} {meth : Method} {c : Code} {n0 s0 : Nat} {post : AH → Int32 → Prop} (C : Cx G p R s m args meth c 4 cX11_instead RX11 n0 s0 6 149) (hr : meth.sig.returnType = (some .int)) {K34 : AH → Nat → Int32 → Prop} (hK34 : ∀ (h : AH) (al0 : Nat) (xl2 : Int32), K34 h al0 xl2 → AW G p l e R s m args below meth c 4 (QM G (pI post) args s below n0 s0) 34 [(0, .ref (G.1 + al0)), (2, .int xl2)] [] h) {h : AH} {al0 : Nat} {xl2 : Int32}  (hw : wb_X11_instead_140 K34 h al0 xl2 post) : AW G p l e R s m args below meth c 4 (QM G (pI post) args s below n0 s0) 140 [(0, .ref (G.1 + al0)), (2, .int xl2)] [] h := by
  unfold wb_X11_instead_140 at hw
  refine r_aload_n C dX11_instead_140 0 rfl ?_
  have hob := hw.1
  obtain ⟨rv1, hp, hw⟩ := hw.2
  refine r_getP C fl_RX11_58_10 hob hp (fun _ _ _ => rfl) dX11_instead_141 ?_
  refine r_aload_n C dX11_instead_144 0 rfl ?_
  have hob := hw.1
  obtain ⟨rv2, hp, hw⟩ := hw.2
  refine r_getP C fl_RX11_30_10 hob hp (fun _ _ _ => rfl) dX11_instead_145 ?_
  have hob := hw.1
  obtain ⟨rv3, hp, hw⟩ := hw.2
  refine r_getP C fl_RX11_215_5 hob hp (fun _ _ _ => rfl) dX11_instead_148 ?_
  refine r_iload_n C dX11_instead_151 1 rfl ?_
  refine r_iaload C hw.1 hw.2.1 dX11_instead_152 ?_
  replace hw := hw.2.2
  refine r_aload_n C dX11_instead_153 0 rfl ?_
  have hob := hw.1
  obtain ⟨rv4, hp, hw⟩ := hw.2
  refine r_getP C fl_RX11_30_10 hob hp (fun _ _ _ => rfl) dX11_instead_154 ?_
  have hob := hw.1
  obtain ⟨rv5, hp, hw⟩ := hw.2
  refine r_getP C fl_RX11_216_5 hob hp (fun _ _ _ => rfl) dX11_instead_157 ?_
  refine r_iload_n C dX11_instead_160 1 rfl ?_
  refine r_iaload C hw.1 hw.2.1 dX11_instead_161 ?_
  replace hw := hw.2.2
  have hob := hw.1
  replace hw := hw.2
  refine r_callV C (As := [.int (aI h rv3 xl2.toNatClampNeg), .int (aI h rv5 xl2.toNatClampNeg)]) (rest := []) (c_X9_step G h rv1 (aI h rv3 xl2.toNatClampNeg) (aI h rv5 xl2.toNatClampNeg) _ hw) yl_X9_step (gm5 (List.mem_of_getElem? (i := 71) rfl) rfl) (gm5 (List.mem_of_getElem? (i := 39) rfl) rfl) (ci := 8) rfl (by decide) (gm5 (List.mem_of_getElem? (i := 40) rfl) rfl) hob (by decide) rfl (Nat.le_of_ble_eq_true rfl) dX11_instead_162 rfl (kI fun hv6 iv7 hw => ?_)
  refine r_if_ne C dX11_instead_165 170 (by decide) (fun hc => ?_) (fun hc => ?_)
  · replace hw := hw.1 hc
    obtain ⟨iv8, eiv8⟩ : ∃ q : Int32, q = xl2 + 1 := ⟨_, rfl⟩
    replace hw := hw iv8 eiv8
    refine r_iinc C dX11_instead_170 1 rfl (by rw [eiv8]; rfl) [(2, .int iv8), (0, .ref (G.1 + al0))] (by decide) rfl ?_
    refine r_goto C dX11_instead_173 34 (by decide) ?_
    refine r_sub [1, 0] rfl ?_
    exact hK34 _ _ _ hw
  · replace hw := hw.2 hc
    refine r_iconst (v := (-1)) C dX11_instead_168 (by decide) ?_
    exact r_iret C hr dX11_instead_169 hw
def wb_X11_instead_134 (K34 : AH → Nat → Int32 → Prop) (K47 : AH → Nat → Int32 → Int32 → Prop) (h : AH) (al0 : Nat) (xl2 : Int32) (xl3 : Int32)  (post : AH → Int32 → Prop) : Prop := ∀ iv1 : Int32, iv1 = xl3 + 1 → (K47 h al0 xl2 iv1)
set_option maxRecDepth 100000 in
theorem tb_X11_instead_134 {G : GG} {p : Program} {l : Launch} {e : Env} {R : Room} {s : State} {m : MethodId} {args : Array Value} {below : List Frame} {meth : Method} {c : Code} {n0 s0 : Nat} {post : AH → Int32 → Prop} (C : Cx G p R s m args meth c 4 cX11_instead RX11 n0 s0 6 149) (hr : meth.sig.returnType = (some .int)) {K34 : AH → Nat → Int32 → Prop} {K47 : AH → Nat → Int32 → Int32 → Prop} (hK34 : ∀ (h : AH) (al0 : Nat) (xl2 : Int32), K34 h al0 xl2 → AW G p l e R s m args below meth c 4 (QM G (pI post) args s below n0 s0) 34 [(0, .ref (G.1 + al0)), (2, .int xl2)] [] h) (hK47 : ∀ (h : AH) (al0 : Nat) (xl2 : Int32) (xl3 : Int32), K47 h al0 xl2 xl3 → AW G p l e R s m args below meth c 4 (QM G (pI post) args s below n0 s0) 47 [(0, .ref (G.1 + al0)), (2, .int xl2), (3, .int xl3)] [] h) {h : AH} {al0 : Nat} {xl2 : Int32} {xl3 : Int32}  (hw : wb_X11_instead_134 K34 K47 h al0 xl2 xl3 post) : AW G p l e R s m args below meth c 4 (QM G (pI post) args s below n0 s0) 134 [(0, .ref (G.1 + al0)), (2, .int xl2), (3, .int xl3)] [] h := by
  unfold wb_X11_instead_134 at hw
  obtain ⟨iv1, eiv1⟩ : ∃ q : Int32, q = xl3 + 1 := ⟨_, rfl⟩
  replace hw := hw iv1 eiv1
  refine r_iinc C dX11_instead_134 2 rfl (by rw [eiv1]; rfl) [(3, .int iv1), (0, .ref (G.1 + al0)), (2, .int xl2)] (by decide) rfl ?_
  refine r_goto C dX11_instead_137 47 (by decide) ?_
  refine r_sub [1, 2, 0] rfl ?_
  exact hK47 _ _ _ _ hw
def wb_X11_instead_47 (K34 : AH → Nat → Int32 → Prop) (K47 : AH → Nat → Int32 → Int32 → Prop) (h : AH) (al0 : Nat) (xl2 : Int32) (xl3 : Int32)  (post : AH → Int32 → Prop) : Prop := (5 ≤ xl3 → (wb_X11_instead_140 K34 h al0 xl2 post)) ∧ (¬ 5 ≤ xl3 → ((ob h al0 10) ∧ (∃ rv1, aP h al0 5 = some rv1 ∧ ((ob h rv1 5) ∧ (∃ rv2, aP h rv1 3 = some rv2 ∧ ((ob h rv2 13) ∧ ((vp_in xl2 (aL h rv2)) ∧ (((aI h rv2 xl2.toNatClampNeg) = 5 → (wb_X11_instead_140 K34 h al0 xl2 post)) ∧ (¬ (aI h rv2 xl2.toNatClampNeg) = 5 → ((ob h al0 10) ∧ (∃ rv3, aP h al0 10 = some rv3 ∧ ((ob h al0 10) ∧ (∃ rv4, aP h al0 9 = some rv4 ∧ ((ob h rv3 8) ∧ wp_X9_follow h rv3 rv4 (fun hv5  => (ob hv5 al0 10) ∧ (∃ rv6, aP hv5 al0 5 = some rv6 ∧ ((ob hv5 rv6 5) ∧ (∃ rv7, aP hv5 rv6 3 = some rv7 ∧ ((ob hv5 rv7 13) ∧ ((vp_in xl2 (aL hv5 rv7)) ∧ ((xl3 = (aI hv5 rv7 xl2.toNatClampNeg) → (wb_X11_instead_134 K34 K47 hv5 al0 xl2 xl3 post)) ∧ (¬ xl3 = (aI hv5 rv7 xl2.toNatClampNeg) → ((ob hv5 al0 10) ∧ (∃ rv8, aP hv5 al0 10 = some rv8 ∧ ((ob hv5 al0 10) ∧ (∃ rv9, aP hv5 al0 5 = some rv9 ∧ ((ob hv5 rv9 5) ∧ (∃ rv10, aP hv5 rv9 4 = some rv10 ∧ ((ob hv5 rv10 13) ∧ ((vp_in xl2 (aL hv5 rv10)) ∧ ((ob hv5 rv8 8) ∧ wp_X9_step hv5 rv8 xl3 (aI hv5 rv10 xl2.toNatClampNeg) (fun hv11 iv12 => (iv12 = 0 → (wb_X11_instead_134 K34 K47 hv11 al0 xl2 xl3 post)) ∧ (¬ iv12 = 0 → ((ob hv11 al0 10) ∧ (∃ rv13, aP hv11 al0 10 = some rv13 ∧ ((ob hv11 al0 10) ∧ (∃ rv14, aP hv11 al0 5 = some rv14 ∧ ((ob hv11 rv13 8) ∧ wp_X9_runFrom hv11 rv13 rv14 (xl2 + (1 : Int32)) (fun hv15 iv16 => (¬ iv16 = (-1) → (wb_X11_instead_134 K34 K47 hv15 al0 xl2 xl3 post)) ∧ (iv16 = (-1) → (post hv15 (((10 : Int32) * xl2) + xl3))))))))))))))))))))))))))))))))))))))))))
set_option maxRecDepth 100000 in
theorem tb_X11_instead_47 {G : GG} {p : Program} {l : Launch} {e : Env} {R : Room} {s : State} {m : MethodId} {args : Array Value} {below : List Frame} {meth : Method} {c : Code} {n0 s0 : Nat} {post : AH → Int32 → Prop} (C : Cx G p R s m args meth c 4 cX11_instead RX11 n0 s0 6 149) (hr : meth.sig.returnType = (some .int)) {K34 : AH → Nat → Int32 → Prop} {K47 : AH → Nat → Int32 → Int32 → Prop} (hK34 : ∀ (h : AH) (al0 : Nat) (xl2 : Int32), K34 h al0 xl2 → AW G p l e R s m args below meth c 4 (QM G (pI post) args s below n0 s0) 34 [(0, .ref (G.1 + al0)), (2, .int xl2)] [] h) (hK47 : ∀ (h : AH) (al0 : Nat) (xl2 : Int32) (xl3 : Int32), K47 h al0 xl2 xl3 → AW G p l e R s m args below meth c 4 (QM G (pI post) args s below n0 s0) 47 [(0, .ref (G.1 + al0)), (2, .int xl2), (3, .int xl3)] [] h) {h : AH} {al0 : Nat} {xl2 : Int32} {xl3 : Int32}  (hw : wb_X11_instead_47 K34 K47 h al0 xl2 xl3 post) : AW G p l e R s m args below meth c 4 (QM G (pI post) args s below n0 s0) 47 [(0, .ref (G.1 + al0)), (2, .int xl2), (3, .int xl3)] [] h := by
  unfold wb_X11_instead_47 at hw
  refine r_iload_n C dX11_instead_47 2 rfl ?_
  refine r_iconst (v := 5) C dX11_instead_48 (by decide) ?_
  refine r_icmp_ge C dX11_instead_49 140 (by decide) (fun hc => ?_) (fun hc => ?_)
  · replace hw := hw.1 hc
    refine r_sub [0, 1] rfl ?_
    exact tb_X11_instead_140 C hr hK34 hw
  · replace hw := hw.2 hc
    refine r_aload_n C dX11_instead_52 0 rfl ?_
    have hob := hw.1
    obtain ⟨rv1, hp, hw⟩ := hw.2
    refine r_getP C fl_RX11_30_10 hob hp (fun _ _ _ => rfl) dX11_instead_53 ?_
    have hob := hw.1
    obtain ⟨rv2, hp, hw⟩ := hw.2
    refine r_getP C fl_RX11_215_5 hob hp (fun _ _ _ => rfl) dX11_instead_56 ?_
    refine r_iload_n C dX11_instead_59 1 rfl ?_
    refine r_iaload C hw.1 hw.2.1 dX11_instead_60 ?_
    replace hw := hw.2.2
    refine r_iconst (v := 5) C dX11_instead_61 (by decide) ?_
    refine r_icmp_eq C dX11_instead_62 140 (by decide) (fun hc => ?_) (fun hc => ?_)
    · replace hw := hw.1 hc
      refine r_sub [0, 1] rfl ?_
      exact tb_X11_instead_140 C hr hK34 hw
    · replace hw := hw.2 hc
      refine r_aload_n C dX11_instead_65 0 rfl ?_
      have hob := hw.1
      obtain ⟨rv3, hp, hw⟩ := hw.2
      refine r_getP C fl_RX11_61_10 hob hp (fun _ _ _ => rfl) dX11_instead_66 ?_
      refine r_aload_n C dX11_instead_69 0 rfl ?_
      have hob := hw.1
      obtain ⟨rv4, hp, hw⟩ := hw.2
      refine r_getP C fl_RX11_58_10 hob hp (fun _ _ _ => rfl) dX11_instead_70 ?_
      have hob := hw.1
      replace hw := hw.2
      refine r_callV C (As := [.ref (G.1 + rv4)]) (rest := []) (c_X9_follow G h rv3 rv4 _ hw) yl_X9_follow (gm5 (List.mem_of_getElem? (i := 67) rfl) rfl) (gm5 (List.mem_of_getElem? (i := 68) rfl) rfl) (ci := 8) rfl (by decide) (gm5 (List.mem_of_getElem? (i := 69) rfl) rfl) hob (by decide) rfl (Nat.le_of_ble_eq_true rfl) dX11_instead_73 rfl (kV fun hv5  hw => ?_)
      refine r_iload_n C dX11_instead_76 2 rfl ?_
      refine r_aload_n C dX11_instead_77 0 rfl ?_
      have hob := hw.1
      obtain ⟨rv6, hp, hw⟩ := hw.2
      refine r_getP C fl_RX11_30_10 hob hp (fun _ _ _ => rfl) dX11_instead_78 ?_
      have hob := hw.1
      obtain ⟨rv7, hp, hw⟩ := hw.2
      refine r_getP C fl_RX11_215_5 hob hp (fun _ _ _ => rfl) dX11_instead_81 ?_
      refine r_iload_n C dX11_instead_84 1 rfl ?_
      refine r_iaload C hw.1 hw.2.1 dX11_instead_85 ?_
      replace hw := hw.2.2
      refine r_icmp_eq C dX11_instead_86 134 (by decide) (fun hc => ?_) (fun hc => ?_)
      · replace hw := hw.1 hc
        refine r_sub [0, 1, 2] rfl ?_
        exact tb_X11_instead_134 C hr hK34 hK47 hw
      · replace hw := hw.2 hc
        refine r_aload_n C dX11_instead_89 0 rfl ?_
        have hob := hw.1
        obtain ⟨rv8, hp, hw⟩ := hw.2
        refine r_getP C fl_RX11_61_10 hob hp (fun _ _ _ => rfl) dX11_instead_90 ?_
        refine r_iload_n C dX11_instead_93 2 rfl ?_
        refine r_aload_n C dX11_instead_94 0 rfl ?_
        have hob := hw.1
        obtain ⟨rv9, hp, hw⟩ := hw.2
        refine r_getP C fl_RX11_30_10 hob hp (fun _ _ _ => rfl) dX11_instead_95 ?_
        have hob := hw.1
        obtain ⟨rv10, hp, hw⟩ := hw.2
        refine r_getP C fl_RX11_216_5 hob hp (fun _ _ _ => rfl) dX11_instead_98 ?_
        refine r_iload_n C dX11_instead_101 1 rfl ?_
        refine r_iaload C hw.1 hw.2.1 dX11_instead_102 ?_
        replace hw := hw.2.2
        have hob := hw.1
        replace hw := hw.2
        refine r_callV C (As := [.int xl3, .int (aI hv5 rv10 xl2.toNatClampNeg)]) (rest := []) (c_X9_step G hv5 rv8 xl3 (aI hv5 rv10 xl2.toNatClampNeg) _ hw) yl_X9_step (gm5 (List.mem_of_getElem? (i := 71) rfl) rfl) (gm5 (List.mem_of_getElem? (i := 39) rfl) rfl) (ci := 8) rfl (by decide) (gm5 (List.mem_of_getElem? (i := 40) rfl) rfl) hob (by decide) rfl (Nat.le_of_ble_eq_true rfl) dX11_instead_103 rfl (kI fun hv11 iv12 hw => ?_)
        refine r_if_eq C dX11_instead_106 134 (by decide) (fun hc => ?_) (fun hc => ?_)
        · replace hw := hw.1 hc
          refine r_sub [0, 1, 2] rfl ?_
          exact tb_X11_instead_134 C hr hK34 hK47 hw
        · replace hw := hw.2 hc
          refine r_aload_n C dX11_instead_109 0 rfl ?_
          have hob := hw.1
          obtain ⟨rv13, hp, hw⟩ := hw.2
          refine r_getP C fl_RX11_61_10 hob hp (fun _ _ _ => rfl) dX11_instead_110 ?_
          refine r_aload_n C dX11_instead_113 0 rfl ?_
          have hob := hw.1
          obtain ⟨rv14, hp, hw⟩ := hw.2
          refine r_getP C fl_RX11_30_10 hob hp (fun _ _ _ => rfl) dX11_instead_114 ?_
          refine r_iload_n C dX11_instead_117 1 rfl ?_
          refine r_iconst (v := 1) C dX11_instead_118 (by decide) ?_
          refine r_iadd C dX11_instead_119 ?_
          have hob := hw.1
          replace hw := hw.2
          refine r_callV C (As := [.ref (G.1 + rv14), .int (xl2 + (1 : Int32))]) (rest := []) (c_X9_runFrom G hv11 rv13 rv14 (xl2 + (1 : Int32)) _ hw) yl_X9_runFrom (gm5 (List.mem_of_getElem? (i := 34) rfl) rfl) (gm5 (List.mem_of_getElem? (i := 35) rfl) rfl) (ci := 8) rfl (by decide) (gm5 (List.mem_of_getElem? (i := 36) rfl) rfl) hob (by decide) rfl (Nat.le_of_ble_eq_true rfl) dX11_instead_120 rfl (kI fun hv15 iv16 hw => ?_)
          refine r_iconst (v := (-1)) C dX11_instead_123 (by decide) ?_
          refine r_icmp_ne C dX11_instead_124 134 (by decide) (fun hc => ?_) (fun hc => ?_)
          · replace hw := hw.1 hc
            refine r_sub [0, 1, 2] rfl ?_
            exact tb_X11_instead_134 C hr hK34 hK47 hw
          · replace hw := hw.2 hc
            refine r_bipush (v := 10) C dX11_instead_127 (by decide) ?_
            refine r_iload_n C dX11_instead_129 1 rfl ?_
            refine r_imul C dX11_instead_130 ?_
            refine r_iload_n C dX11_instead_131 2 rfl ?_
            refine r_iadd C dX11_instead_132 ?_
            exact r_iret C hr dX11_instead_133 hw
def wl_X11_instead_47 (K34 : AH → Nat → Int32 → Prop) (post : AH → Int32 → Prop) : Nat → AH → Nat → Int32 → Int32 → Prop
  | 0 => fun _ _ _ _ => False
  | n + 1 => fun h al0 xl2 xl3 => wb_X11_instead_47 K34 (wl_X11_instead_47 K34 post n) h al0 xl2 xl3 post
theorem tl_X11_instead_47 {G : GG} {p : Program} {l : Launch} {e : Env} {R : Room} {s : State} {m : MethodId} {args : Array Value} {below : List Frame} {meth : Method} {c : Code} {n0 s0 : Nat} {post : AH → Int32 → Prop} (C : Cx G p R s m args meth c 4 cX11_instead RX11 n0 s0 6 149) (hr : meth.sig.returnType = (some .int)) {K34 : AH → Nat → Int32 → Prop} (hK34 : ∀ (h : AH) (al0 : Nat) (xl2 : Int32), K34 h al0 xl2 → AW G p l e R s m args below meth c 4 (QM G (pI post) args s below n0 s0) 34 [(0, .ref (G.1 + al0)), (2, .int xl2)] [] h) : ∀ (n : Nat) (h : AH) (al0 : Nat) (xl2 : Int32) (xl3 : Int32), wl_X11_instead_47 K34 post n h al0 xl2 xl3 → AW G p l e R s m args below meth c 4 (QM G (pI post) args s below n0 s0) 47 [(0, .ref (G.1 + al0)), (2, .int xl2), (3, .int xl3)] [] h := by
  intro n
  induction n with
  | zero => intro h al0 xl2 xl3 hw; exact hw.elim
  | succ n ih => intro h al0 xl2 xl3 hw; exact tb_X11_instead_47 C hr hK34 ih hw
def wb_X11_instead_34 (K34 : AH → Nat → Int32 → Prop) (h : AH) (al0 : Nat) (xl2 : Int32)  (post : AH → Int32 → Prop) : Prop := (ob h al0 10) ∧ (∃ rv1, aP h al0 5 = some rv1 ∧ ((ob h rv1 5) ∧ (((aI h rv1 2) ≤ xl2 → (post h (-1))) ∧ (¬ (aI h rv1 2) ≤ xl2 → (∃ n, wl_X11_instead_47 K34 post n h al0 xl2 0)))))
set_option maxRecDepth 100000 in
theorem tb_X11_instead_34 {G : GG} {p : Program} {l : Launch} {e : Env} {R : Room} {s : State} {m : MethodId} {args : Array Value} {below : List Frame} {meth : Method} {c : Code} {n0 s0 : Nat} {post : AH → Int32 → Prop} (C : Cx G p R s m args meth c 4 cX11_instead RX11 n0 s0 6 149) (hr : meth.sig.returnType = (some .int)) {K34 : AH → Nat → Int32 → Prop} (hK34 : ∀ (h : AH) (al0 : Nat) (xl2 : Int32), K34 h al0 xl2 → AW G p l e R s m args below meth c 4 (QM G (pI post) args s below n0 s0) 34 [(0, .ref (G.1 + al0)), (2, .int xl2)] [] h) {h : AH} {al0 : Nat} {xl2 : Int32}  (hw : wb_X11_instead_34 K34 h al0 xl2 post) : AW G p l e R s m args below meth c 4 (QM G (pI post) args s below n0 s0) 34 [(0, .ref (G.1 + al0)), (2, .int xl2)] [] h := by
  unfold wb_X11_instead_34 at hw
  refine r_iload_n C dX11_instead_34 1 rfl ?_
  refine r_aload_n C dX11_instead_35 0 rfl ?_
  have hob := hw.1
  obtain ⟨rv1, hp, hw⟩ := hw.2
  refine r_getP C fl_RX11_30_10 hob hp (fun _ _ _ => rfl) dX11_instead_36 ?_
  refine r_getI C fl_RX11_212_5 hw.1 (fun _ _ _ => rfl) dX11_instead_39 ?_
  replace hw := hw.2
  refine r_icmp_ge C dX11_instead_42 176 (by decide) (fun hc => ?_) (fun hc => ?_)
  · replace hw := hw.1 hc
    refine r_iconst (v := (-1)) C dX11_instead_176 (by decide) ?_
    exact r_iret C hr dX11_instead_177 hw
  · replace hw := hw.2 hc
    refine r_iconst (v := 0) C dX11_instead_45 (by decide) ?_
    refine r_istore_n C dX11_instead_46 [(3, .int 0), (0, .ref (G.1 + al0)), (2, .int xl2)] (by decide) rfl ?_
    refine r_sub [1, 2, 0] rfl ?_
    obtain ⟨n, hw⟩ := hw
    exact tl_X11_instead_47 C hr hK34 n _ _ _ _ hw
def wl_X11_instead_34  (post : AH → Int32 → Prop) : Nat → AH → Nat → Int32 → Prop
  | 0 => fun _ _ _ => False
  | n + 1 => fun h al0 xl2 => wb_X11_instead_34  (wl_X11_instead_34  post n) h al0 xl2 post
theorem tl_X11_instead_34 {G : GG} {p : Program} {l : Launch} {e : Env} {R : Room} {s : State} {m : MethodId} {args : Array Value} {below : List Frame} {meth : Method} {c : Code} {n0 s0 : Nat} {post : AH → Int32 → Prop} (C : Cx G p R s m args meth c 4 cX11_instead RX11 n0 s0 6 149) (hr : meth.sig.returnType = (some .int))   : ∀ (n : Nat) (h : AH) (al0 : Nat) (xl2 : Int32), wl_X11_instead_34  post n h al0 xl2 → AW G p l e R s m args below meth c 4 (QM G (pI post) args s below n0 s0) 34 [(0, .ref (G.1 + al0)), (2, .int xl2)] [] h := by
  intro n
  induction n with
  | zero => intro h al0 xl2 hw; exact hw.elim
  | succ n ih => intro h al0 xl2 hw; exact tb_X11_instead_34 C hr  ih hw
def wp_X11_instead (h : AH) (a0 : Nat) (x1 : Int32) (post : AH → Int32 → Prop) : Prop := wp_X11_isQuarter h x1 (fun hv1 iv2 => (¬ iv2 = 0 → ((ob hv1 a0 10) ∧ (∃ rv3, aP hv1 a0 9 = some rv3 ∧ ((ob hv1 a0 10) ∧ (∃ rv4, aP hv1 a0 5 = some rv4 ∧ ((ob hv1 rv4 5) ∧ (∃ rv5, aP hv1 rv4 0 = some rv5 ∧ ((ob hv1 a0 10) ∧ (∃ rv6, aP hv1 a0 5 = some rv6 ∧ ((ob hv1 rv6 5) ∧ (∃ rv7, aP hv1 rv6 1 = some rv7 ∧ ((ob hv1 rv3 8) ∧ wp_X9_begin hv1 rv3 rv5 rv7 x1 (fun hv8  => ∃ n, wl_X11_instead_34  post n hv8 a0 0))))))))))))) ∧ (iv2 = 0 → (post hv1 (-2))))
set_option maxRecDepth 100000 in
theorem c_X11_instead (G : GG) (h : AH) (a0 : Nat) (x1 : Int32) (post : AH → Int32 → Prop) (hw : wp_X11_instead h a0 x1 post) : MC G yX11_instead cX11_instead 4 (some .int) 6 149 h [.ref (G.1 + a0), .int x1] (pI post) := by
  refine MC.of (lv := [(0, .ref (G.1 + a0)), (1, .int x1)]) (by decide) (Nat.le_of_ble_eq_true rfl) rfl fun p l e R s m args below meth c C hr hnm => ?_
  unfold wp_X11_instead at hw
  refine r_iload_n C dX11_instead_0 1 rfl ?_
  refine r_callS C (As := [.int x1]) (rest := []) (c_X11_isQuarter G h x1 _ hw) yl_X11_isQuarter (gm5 (List.mem_of_getElem? (i := 26) rfl) rfl) (gm5 (List.mem_of_getElem? (i := 27) rfl) rfl) (by decide) rfl (Nat.le_of_ble_eq_true rfl) dX11_instead_1 rfl (kI fun hv1 iv2 hw => ?_)
  refine r_if_ne C dX11_instead_4 10 (by decide) (fun hc => ?_) (fun hc => ?_)
  · replace hw := hw.1 hc
    refine r_aload_n C dX11_instead_10 0 rfl ?_
    have hob := hw.1
    obtain ⟨rv3, hp, hw⟩ := hw.2
    refine r_getP C fl_RX11_58_10 hob hp (fun _ _ _ => rfl) dX11_instead_11 ?_
    refine r_aload_n C dX11_instead_14 0 rfl ?_
    have hob := hw.1
    obtain ⟨rv4, hp, hw⟩ := hw.2
    refine r_getP C fl_RX11_30_10 hob hp (fun _ _ _ => rfl) dX11_instead_15 ?_
    have hob := hw.1
    obtain ⟨rv5, hp, hw⟩ := hw.2
    refine r_getP C fl_RX11_40_5 hob hp (fun _ _ _ => rfl) dX11_instead_18 ?_
    refine r_aload_n C dX11_instead_21 0 rfl ?_
    have hob := hw.1
    obtain ⟨rv6, hp, hw⟩ := hw.2
    refine r_getP C fl_RX11_30_10 hob hp (fun _ _ _ => rfl) dX11_instead_22 ?_
    have hob := hw.1
    obtain ⟨rv7, hp, hw⟩ := hw.2
    refine r_getP C fl_RX11_132_5 hob hp (fun _ _ _ => rfl) dX11_instead_25 ?_
    refine r_iload_n C dX11_instead_28 1 rfl ?_
    have hob := hw.1
    replace hw := hw.2
    refine r_callV C (As := [.ref (G.1 + rv5), .ref (G.1 + rv7), .int x1]) (rest := []) (c_X9_begin G hv1 rv3 rv5 rv7 x1 _ hw) yl_X9_begin (gm5 (List.mem_of_getElem? (i := 29) rfl) rfl) (gm5 (List.mem_of_getElem? (i := 30) rfl) rfl) (ci := 8) rfl (by decide) (gm5 (List.mem_of_getElem? (i := 31) rfl) rfl) hob (by decide) rfl (Nat.le_of_ble_eq_true rfl) dX11_instead_29 rfl (kV fun hv8  hw => ?_)
    refine r_iconst (v := 0) C dX11_instead_32 (by decide) ?_
    refine r_istore_n C dX11_instead_33 [(2, .int 0), (0, .ref (G.1 + a0)), (1, .int x1)] (by decide) rfl ?_
    refine r_sub [1, 0] rfl ?_
    obtain ⟨n, hw⟩ := hw
    exact tl_X11_instead_34 C hr  n _ _ _ hw
  · replace hw := hw.2 hc
    refine r_bipush (v := (-2)) C dX11_instead_7 (by decide) ?_
    exact r_iret C hr dX11_instead_9 hw
theorem dX11_least_0 : decode cX11_least 0 = .ok (.aload_n 0, 1) := by decide +kernel
theorem dX11_least_1 : decode cX11_least 1 = .ok (.getfield 47, 3) := by decide +kernel
theorem dX11_least_4 : decode cX11_least 4 = .ok (.aload_n 0, 1) := by decide +kernel
theorem dX11_least_5 : decode cX11_least 5 = .ok (.getfield 30, 3) := by decide +kernel
theorem dX11_least_8 : decode cX11_least 8 = .ok (.getfield 40, 3) := by decide +kernel
theorem dX11_least_11 : decode cX11_least 11 = .ok (.aload_n 0, 1) := by decide +kernel
theorem dX11_least_12 : decode cX11_least 12 = .ok (.getfield 9, 3) := by decide +kernel
theorem dX11_least_15 : decode cX11_least 15 = .ok (.aload_n 0, 1) := by decide +kernel
theorem dX11_least_16 : decode cX11_least 16 = .ok (.invokevirtual 79, 3) := by decide +kernel
theorem dX11_least_19 : decode cX11_least 19 = .ok (.invokevirtual 154, 3) := by decide +kernel
theorem dX11_least_22 : decode cX11_least 22 = .ok (.istore_n 2, 1) := by decide +kernel
theorem dX11_least_23 : decode cX11_least 23 = .ok (.iload_n 2, 1) := by decide +kernel
theorem dX11_least_24 : decode cX11_least 24 = .ok (.ifCond .eq 23, 3) := by decide +kernel
theorem dX11_least_27 : decode cX11_least 27 = .ok (.iload_n 1, 1) := by decide +kernel
theorem dX11_least_28 : decode cX11_least 28 = .ok (.invokestatic 109, 3) := by decide +kernel
theorem dX11_least_31 : decode cX11_least 31 = .ok (.ifCond .eq 16, 3) := by decide +kernel
theorem dX11_least_34 : decode cX11_least 34 = .ok (.aload_n 0, 1) := by decide +kernel
theorem dX11_least_35 : decode cX11_least 35 = .ok (.getfield 30, 3) := by decide +kernel
theorem dX11_least_38 : decode cX11_least 38 = .ok (.getfield 40, 3) := by decide +kernel
theorem dX11_least_41 : decode cX11_least 41 = .ok (.invokevirtual 259, 3) := by decide +kernel
theorem dX11_least_44 : decode cX11_least 44 = .ok (.ifCond .ne 6, 3) := by decide +kernel
theorem dX11_least_47 : decode cX11_least 47 = .ok (.bipush (-2), 2) := by decide +kernel
theorem dX11_least_49 : decode cX11_least 49 = .ok (.ireturn, 1) := by decide +kernel
theorem dX11_least_50 : decode cX11_least 50 = .ok (.aload_n 0, 1) := by decide +kernel
theorem dX11_least_51 : decode cX11_least 51 = .ok (.getfield 67, 3) := by decide +kernel
theorem dX11_least_54 : decode cX11_least 54 = .ok (.aload_n 0, 1) := by decide +kernel
theorem dX11_least_55 : decode cX11_least 55 = .ok (.getfield 30, 3) := by decide +kernel
theorem dX11_least_58 : decode cX11_least 58 = .ok (.getfield 40, 3) := by decide +kernel
theorem dX11_least_61 : decode cX11_least 61 = .ok (.aload_n 0, 1) := by decide +kernel
theorem dX11_least_62 : decode cX11_least 62 = .ok (.getfield 30, 3) := by decide +kernel
theorem dX11_least_65 : decode cX11_least 65 = .ok (.getfield 132, 3) := by decide +kernel
theorem dX11_least_68 : decode cX11_least 68 = .ok (.aload_n 0, 1) := by decide +kernel
theorem dX11_least_69 : decode cX11_least 69 = .ok (.getfield 47, 3) := by decide +kernel
theorem dX11_least_72 : decode cX11_least 72 = .ok (.iload_n 1, 1) := by decide +kernel
theorem dX11_least_73 : decode cX11_least 73 = .ok (.invokevirtual 263, 3) := by decide +kernel
theorem dX11_least_76 : decode cX11_least 76 = .ok (.ireturn, 1) := by decide +kernel
def wp_X11_least (h : AH) (a0 : Nat) (x1 : Int32) (post : AH → Int32 → Prop) : Prop := (ob h a0 10) ∧ (∃ rv1, aP h a0 7 = some rv1 ∧ ((ob h a0 10) ∧ (∃ rv2, aP h a0 5 = some rv2 ∧ ((ob h rv2 5) ∧ (∃ rv3, aP h rv2 0 = some rv3 ∧ ((ob h a0 10) ∧ (∃ rv4, aP h a0 0 = some rv4 ∧ ((ob h a0 10) ∧ wp_X11_takeTape h a0  (fun hv5 iv6 => (ob hv5 rv1 7) ∧ wp_X8_readBytes hv5 rv1 rv3 rv4 iv6 (fun hv7 iv8 => (iv8 = 0 → (post hv7 (-2))) ∧ (¬ iv8 = 0 → (wp_X11_isHour hv7 x1 (fun hv9 iv10 => (iv10 = 0 → (post hv9 (-2))) ∧ (¬ iv10 = 0 → ((ob hv9 a0 10) ∧ (∃ rv11, aP hv9 a0 5 = some rv11 ∧ ((ob hv9 rv11 5) ∧ (∃ rv12, aP hv9 rv11 0 = some rv12 ∧ ((ob hv9 rv12 1) ∧ wp_X1_isSmall hv9 rv12  (fun hv13 iv14 => (¬ iv14 = 0 → ((ob hv13 a0 10) ∧ (∃ rv15, aP hv13 a0 14 = some rv15 ∧ ((ob hv13 a0 10) ∧ (∃ rv16, aP hv13 a0 5 = some rv16 ∧ ((ob hv13 rv16 5) ∧ (∃ rv17, aP hv13 rv16 0 = some rv17 ∧ ((ob hv13 a0 10) ∧ (∃ rv18, aP hv13 a0 5 = some rv18 ∧ ((ob hv13 rv18 5) ∧ (∃ rv19, aP hv13 rv18 1 = some rv19 ∧ ((ob hv13 a0 10) ∧ (∃ rv20, aP hv13 a0 7 = some rv20 ∧ ((ob hv13 rv15 6) ∧ wp_X6_leastActs hv13 rv15 rv17 rv19 rv20 x1 (fun hv21 iv22 => post hv21 iv22))))))))))))))) ∧ (iv14 = 0 → (post hv13 (-2)))))))))))))))))))))))
set_option maxRecDepth 100000 in
theorem c_X11_least (G : GG) (h : AH) (a0 : Nat) (x1 : Int32) (post : AH → Int32 → Prop) (hw : wp_X11_least h a0 x1 post) : MC G yX11_least cX11_least 3 (some .int) 6 152 h [.ref (G.1 + a0), .int x1] (pI post) := by
  refine MC.of (lv := [(0, .ref (G.1 + a0)), (1, .int x1)]) (by decide) (Nat.le_of_ble_eq_true rfl) rfl fun p l e R s m args below meth c C hr hnm => ?_
  unfold wp_X11_least at hw
  refine r_aload_n C dX11_least_0 0 rfl ?_
  have hob := hw.1
  obtain ⟨rv1, hp, hw⟩ := hw.2
  refine r_getP C fl_RX11_47_10 hob hp (fun _ _ _ => rfl) dX11_least_1 ?_
  refine r_aload_n C dX11_least_4 0 rfl ?_
  have hob := hw.1
  obtain ⟨rv2, hp, hw⟩ := hw.2
  refine r_getP C fl_RX11_30_10 hob hp (fun _ _ _ => rfl) dX11_least_5 ?_
  have hob := hw.1
  obtain ⟨rv3, hp, hw⟩ := hw.2
  refine r_getP C fl_RX11_40_5 hob hp (fun _ _ _ => rfl) dX11_least_8 ?_
  refine r_aload_n C dX11_least_11 0 rfl ?_
  have hob := hw.1
  obtain ⟨rv4, hp, hw⟩ := hw.2
  refine r_getP C fl_RX11_9_10 hob hp (fun _ _ _ => rfl) dX11_least_12 ?_
  refine r_aload_n C dX11_least_15 0 rfl ?_
  have hob := hw.1
  replace hw := hw.2
  refine r_callV C (As := []) (rest := [.ref (G.1 + rv4), .ref (G.1 + rv3), .ref (G.1 + rv1)]) (c_X11_takeTape G h a0  _ hw) yl_X11_takeTape (gm3 (List.mem_of_getElem? (i := 107) rfl) rfl) (gm3 (List.mem_of_getElem? (i := 109) rfl) rfl) (ci := 10) rfl (by decide) (gsel (List.mem_of_getElem? (i := 1) rfl)) hob (by decide) rfl (Nat.le_of_ble_eq_true rfl) dX11_least_16 rfl (kI fun hv5 iv6 hw => ?_)
  have hob := hw.1
  replace hw := hw.2
  refine r_callV C (As := [.ref (G.1 + rv3), .ref (G.1 + rv4), .int iv6]) (rest := []) (c_X8_readBytes G hv5 rv1 rv3 rv4 iv6 _ hw) yl_X8_readBytes (gm4 (List.mem_of_getElem? (i := 102) rfl) rfl) (gm4 (List.mem_of_getElem? (i := 103) rfl) rfl) (ci := 7) rfl (by decide) (gm4 (List.mem_of_getElem? (i := 104) rfl) rfl) hob (by decide) rfl (Nat.le_of_ble_eq_true rfl) dX11_least_19 rfl (kI fun hv7 iv8 hw => ?_)
  refine r_istore_n C dX11_least_22 [(2, .int iv8), (0, .ref (G.1 + a0)), (1, .int x1)] (by decide) rfl ?_
  refine r_iload_n C dX11_least_23 0 rfl ?_
  refine r_if_eq C dX11_least_24 47 (by decide) (fun hc => ?_) (fun hc => ?_)
  · replace hw := hw.1 hc
    refine r_bipush (v := (-2)) C dX11_least_47 (by decide) ?_
    exact r_iret C hr dX11_least_49 hw
  · replace hw := hw.2 hc
    refine r_iload_n C dX11_least_27 2 rfl ?_
    refine r_callS C (As := [.int x1]) (rest := []) (c_X11_isHour G hv7 x1 _ hw) yl_X11_isHour (gm4 (List.mem_of_getElem? (i := 90) rfl) rfl) (gm4 (List.mem_of_getElem? (i := 91) rfl) rfl) (by decide) rfl (Nat.le_of_ble_eq_true rfl) dX11_least_28 rfl (kI fun hv9 iv10 hw => ?_)
    refine r_if_eq C dX11_least_31 47 (by decide) (fun hc => ?_) (fun hc => ?_)
    · replace hw := hw.1 hc
      refine r_bipush (v := (-2)) C dX11_least_47 (by decide) ?_
      exact r_iret C hr dX11_least_49 hw
    · replace hw := hw.2 hc
      refine r_aload_n C dX11_least_34 1 rfl ?_
      have hob := hw.1
      obtain ⟨rv11, hp, hw⟩ := hw.2
      refine r_getP C fl_RX11_30_10 hob hp (fun _ _ _ => rfl) dX11_least_35 ?_
      have hob := hw.1
      obtain ⟨rv12, hp, hw⟩ := hw.2
      refine r_getP C fl_RX11_40_5 hob hp (fun _ _ _ => rfl) dX11_least_38 ?_
      have hob := hw.1
      replace hw := hw.2
      refine r_callV C (As := []) (rest := []) (c_X1_isSmall G hv9 rv12  _ hw) yl_X1_isSmall (gm5 (List.mem_of_getElem? (i := 80) rfl) rfl) (gm5 (List.mem_of_getElem? (i := 81) rfl) rfl) (ci := 1) rfl (by decide) (gm5 (List.mem_of_getElem? (i := 82) rfl) rfl) hob (by decide) rfl (Nat.le_of_ble_eq_true rfl) dX11_least_41 rfl (kI fun hv13 iv14 hw => ?_)
      refine r_if_ne C dX11_least_44 50 (by decide) (fun hc => ?_) (fun hc => ?_)
      · replace hw := hw.1 hc
        refine r_aload_n C dX11_least_50 1 rfl ?_
        have hob := hw.1
        obtain ⟨rv15, hp, hw⟩ := hw.2
        refine r_getP C fl_RX11_67_10 hob hp (fun _ _ _ => rfl) dX11_least_51 ?_
        refine r_aload_n C dX11_least_54 1 rfl ?_
        have hob := hw.1
        obtain ⟨rv16, hp, hw⟩ := hw.2
        refine r_getP C fl_RX11_30_10 hob hp (fun _ _ _ => rfl) dX11_least_55 ?_
        have hob := hw.1
        obtain ⟨rv17, hp, hw⟩ := hw.2
        refine r_getP C fl_RX11_40_5 hob hp (fun _ _ _ => rfl) dX11_least_58 ?_
        refine r_aload_n C dX11_least_61 1 rfl ?_
        have hob := hw.1
        obtain ⟨rv18, hp, hw⟩ := hw.2
        refine r_getP C fl_RX11_30_10 hob hp (fun _ _ _ => rfl) dX11_least_62 ?_
        have hob := hw.1
        obtain ⟨rv19, hp, hw⟩ := hw.2
        refine r_getP C fl_RX11_132_5 hob hp (fun _ _ _ => rfl) dX11_least_65 ?_
        refine r_aload_n C dX11_least_68 1 rfl ?_
        have hob := hw.1
        obtain ⟨rv20, hp, hw⟩ := hw.2
        refine r_getP C fl_RX11_47_10 hob hp (fun _ _ _ => rfl) dX11_least_69 ?_
        refine r_iload_n C dX11_least_72 2 rfl ?_
        have hob := hw.1
        replace hw := hw.2
        refine r_callV C (As := [.ref (G.1 + rv17), .ref (G.1 + rv19), .ref (G.1 + rv20), .int x1]) (rest := []) (c_X6_leastActs G hv13 rv15 rv17 rv19 rv20 x1 _ hw) yl_X6_leastActs (gm5 (List.mem_of_getElem? (i := 84) rfl) rfl) (gm5 (List.mem_of_getElem? (i := 85) rfl) rfl) (ci := 6) rfl (by decide) (gm5 (List.mem_of_getElem? (i := 86) rfl) rfl) hob (by decide) rfl (Nat.le_of_ble_eq_true rfl) dX11_least_73 rfl (kI fun hv21 iv22 hw => ?_)
        exact r_iret C hr dX11_least_76 hw
      · replace hw := hw.2 hc
        refine r_bipush (v := (-2)) C dX11_least_47 (by decide) ?_
        exact r_iret C hr dX11_least_49 hw
theorem dX11_changed_0 : decode cX11_changed 0 = .ok (.aload_n 0, 1) := by decide +kernel
theorem dX11_changed_1 : decode cX11_changed 1 = .ok (.iload_n 1, 1) := by decide +kernel
theorem dX11_changed_2 : decode cX11_changed 2 = .ok (.invokevirtual 126, 3) := by decide +kernel
theorem dX11_changed_5 : decode cX11_changed 5 = .ok (.ifCond .eq 36, 3) := by decide +kernel
theorem dX11_changed_8 : decode cX11_changed 8 = .ok (.aload_n 0, 1) := by decide +kernel
theorem dX11_changed_9 : decode cX11_changed 9 = .ok (.iload_n 2, 1) := by decide +kernel
theorem dX11_changed_10 : decode cX11_changed 10 = .ok (.invokevirtual 126, 3) := by decide +kernel
theorem dX11_changed_13 : decode cX11_changed 13 = .ok (.ifCond .eq 28, 3) := by decide +kernel
theorem dX11_changed_16 : decode cX11_changed 16 = .ok (.iload_n 1, 1) := by decide +kernel
theorem dX11_changed_17 : decode cX11_changed 17 = .ok (.iload_n 2, 1) := by decide +kernel
theorem dX11_changed_18 : decode cX11_changed 18 = .ok (.if_icmp .eq 23, 3) := by decide +kernel
theorem dX11_changed_21 : decode cX11_changed 21 = .ok (.iload_n 3, 1) := by decide +kernel
theorem dX11_changed_22 : decode cX11_changed 22 = .ok (.invokestatic 109, 3) := by decide +kernel
theorem dX11_changed_25 : decode cX11_changed 25 = .ok (.ifCond .eq 16, 3) := by decide +kernel
theorem dX11_changed_28 : decode cX11_changed 28 = .ok (.aload_n 0, 1) := by decide +kernel
theorem dX11_changed_29 : decode cX11_changed 29 = .ok (.getfield 30, 3) := by decide +kernel
theorem dX11_changed_32 : decode cX11_changed 32 = .ok (.getfield 40, 3) := by decide +kernel
theorem dX11_changed_35 : decode cX11_changed 35 = .ok (.invokevirtual 259, 3) := by decide +kernel
theorem dX11_changed_38 : decode cX11_changed 38 = .ok (.ifCond .ne 6, 3) := by decide +kernel
theorem dX11_changed_41 : decode cX11_changed 41 = .ok (.bipush (-2), 2) := by decide +kernel
theorem dX11_changed_43 : decode cX11_changed 43 = .ok (.ireturn, 1) := by decide +kernel
theorem dX11_changed_44 : decode cX11_changed 44 = .ok (.aload_n 0, 1) := by decide +kernel
theorem dX11_changed_45 : decode cX11_changed 45 = .ok (.getfield 47, 3) := by decide +kernel
theorem dX11_changed_48 : decode cX11_changed 48 = .ok (.aload_n 0, 1) := by decide +kernel
theorem dX11_changed_49 : decode cX11_changed 49 = .ok (.getfield 30, 3) := by decide +kernel
theorem dX11_changed_52 : decode cX11_changed 52 = .ok (.getfield 40, 3) := by decide +kernel
theorem dX11_changed_55 : decode cX11_changed 55 = .ok (.aload_n 0, 1) := by decide +kernel
theorem dX11_changed_56 : decode cX11_changed 56 = .ok (.getfield 30, 3) := by decide +kernel
theorem dX11_changed_59 : decode cX11_changed 59 = .ok (.getfield 132, 3) := by decide +kernel
theorem dX11_changed_62 : decode cX11_changed 62 = .ok (.invokevirtual 158, 3) := by decide +kernel
theorem dX11_changed_65 : decode cX11_changed 65 = .ok (.aload_n 0, 1) := by decide +kernel
theorem dX11_changed_66 : decode cX11_changed 66 = .ok (.getfield 30, 3) := by decide +kernel
theorem dX11_changed_69 : decode cX11_changed 69 = .ok (.getfield 132, 3) := by decide +kernel
theorem dX11_changed_72 : decode cX11_changed 72 = .ok (.getfield 135, 3) := by decide +kernel
theorem dX11_changed_75 : decode cX11_changed 75 = .ok (.iload_n 1, 1) := by decide +kernel
theorem dX11_changed_76 : decode cX11_changed 76 = .ok (.iaload, 1) := by decide +kernel
theorem dX11_changed_77 : decode cX11_changed 77 = .ok (.istore 4, 2) := by decide +kernel
theorem dX11_changed_79 : decode cX11_changed 79 = .ok (.aload_n 0, 1) := by decide +kernel
theorem dX11_changed_80 : decode cX11_changed 80 = .ok (.getfield 30, 3) := by decide +kernel
theorem dX11_changed_83 : decode cX11_changed 83 = .ok (.getfield 132, 3) := by decide +kernel
theorem dX11_changed_86 : decode cX11_changed 86 = .ok (.getfield 135, 3) := by decide +kernel
theorem dX11_changed_89 : decode cX11_changed 89 = .ok (.iload_n 2, 1) := by decide +kernel
theorem dX11_changed_90 : decode cX11_changed 90 = .ok (.iaload, 1) := by decide +kernel
theorem dX11_changed_91 : decode cX11_changed 91 = .ok (.istore 5, 2) := by decide +kernel
theorem dX11_changed_93 : decode cX11_changed 93 = .ok (.aload_n 0, 1) := by decide +kernel
theorem dX11_changed_94 : decode cX11_changed 94 = .ok (.getfield 47, 3) := by decide +kernel
theorem dX11_changed_97 : decode cX11_changed 97 = .ok (.iload_n 1, 1) := by decide +kernel
theorem dX11_changed_98 : decode cX11_changed 98 = .ok (.iload 4, 2) := by decide +kernel
theorem dX11_changed_100 : decode cX11_changed 100 = .ok (.bipush 64, 2) := by decide +kernel
theorem dX11_changed_102 : decode cX11_changed 102 = .ok (.iand, 1) := by decide +kernel
theorem dX11_changed_103 : decode cX11_changed 103 = .ok (.iload 5, 2) := by decide +kernel
theorem dX11_changed_105 : decode cX11_changed 105 = .ok (.bipush 63, 2) := by decide +kernel
theorem dX11_changed_107 : decode cX11_changed 107 = .ok (.iand, 1) := by decide +kernel
theorem dX11_changed_108 : decode cX11_changed 108 = .ok (.ior, 1) := by decide +kernel
theorem dX11_changed_109 : decode cX11_changed 109 = .ok (.invokevirtual 186, 3) := by decide +kernel
theorem dX11_changed_112 : decode cX11_changed 112 = .ok (.aload_n 0, 1) := by decide +kernel
theorem dX11_changed_113 : decode cX11_changed 113 = .ok (.getfield 47, 3) := by decide +kernel
theorem dX11_changed_116 : decode cX11_changed 116 = .ok (.iload_n 2, 1) := by decide +kernel
theorem dX11_changed_117 : decode cX11_changed 117 = .ok (.iload 5, 2) := by decide +kernel
theorem dX11_changed_119 : decode cX11_changed 119 = .ok (.bipush 64, 2) := by decide +kernel
theorem dX11_changed_121 : decode cX11_changed 121 = .ok (.iand, 1) := by decide +kernel
theorem dX11_changed_122 : decode cX11_changed 122 = .ok (.iload 4, 2) := by decide +kernel
theorem dX11_changed_124 : decode cX11_changed 124 = .ok (.bipush 63, 2) := by decide +kernel
theorem dX11_changed_126 : decode cX11_changed 126 = .ok (.iand, 1) := by decide +kernel
theorem dX11_changed_127 : decode cX11_changed 127 = .ok (.ior, 1) := by decide +kernel
theorem dX11_changed_128 : decode cX11_changed 128 = .ok (.invokevirtual 186, 3) := by decide +kernel
theorem dX11_changed_131 : decode cX11_changed 131 = .ok (.aload_n 0, 1) := by decide +kernel
theorem dX11_changed_132 : decode cX11_changed 132 = .ok (.getfield 47, 3) := by decide +kernel
theorem dX11_changed_135 : decode cX11_changed 135 = .ok (.invokevirtual 267, 3) := by decide +kernel
theorem dX11_changed_138 : decode cX11_changed 138 = .ok (.ifCond .ne 6, 3) := by decide +kernel
theorem dX11_changed_141 : decode cX11_changed 141 = .ok (.bipush (-2), 2) := by decide +kernel
theorem dX11_changed_143 : decode cX11_changed 143 = .ok (.ireturn, 1) := by decide +kernel
theorem dX11_changed_144 : decode cX11_changed 144 = .ok (.aload_n 0, 1) := by decide +kernel
theorem dX11_changed_145 : decode cX11_changed 145 = .ok (.getfield 67, 3) := by decide +kernel
theorem dX11_changed_148 : decode cX11_changed 148 = .ok (.aload_n 0, 1) := by decide +kernel
theorem dX11_changed_149 : decode cX11_changed 149 = .ok (.getfield 30, 3) := by decide +kernel
theorem dX11_changed_152 : decode cX11_changed 152 = .ok (.getfield 40, 3) := by decide +kernel
theorem dX11_changed_155 : decode cX11_changed 155 = .ok (.aload_n 0, 1) := by decide +kernel
theorem dX11_changed_156 : decode cX11_changed 156 = .ok (.getfield 30, 3) := by decide +kernel
theorem dX11_changed_159 : decode cX11_changed 159 = .ok (.getfield 132, 3) := by decide +kernel
theorem dX11_changed_162 : decode cX11_changed 162 = .ok (.aload_n 0, 1) := by decide +kernel
theorem dX11_changed_163 : decode cX11_changed 163 = .ok (.getfield 47, 3) := by decide +kernel
theorem dX11_changed_166 : decode cX11_changed 166 = .ok (.iload_n 3, 1) := by decide +kernel
theorem dX11_changed_167 : decode cX11_changed 167 = .ok (.invokevirtual 263, 3) := by decide +kernel
theorem dX11_changed_170 : decode cX11_changed 170 = .ok (.ireturn, 1) := by decide +kernel
def wp_X11_changed (h : AH) (a0 : Nat) (x1 : Int32) (x2 : Int32) (x3 : Int32) (post : AH → Int32 → Prop) : Prop := (ob h a0 10) ∧ wp_X11_isRaft h a0 x1 (fun hv1 iv2 => (iv2 = 0 → (post hv1 (-2))) ∧ (¬ iv2 = 0 → ((ob hv1 a0 10) ∧ wp_X11_isRaft hv1 a0 x2 (fun hv3 iv4 => (iv4 = 0 → (post hv3 (-2))) ∧ (¬ iv4 = 0 → ((x1 = x2 → (post hv3 (-2))) ∧ (¬ x1 = x2 → (wp_X11_isHour hv3 x3 (fun hv5 iv6 => (iv6 = 0 → (post hv5 (-2))) ∧ (¬ iv6 = 0 → ((ob hv5 a0 10) ∧ (∃ rv7, aP hv5 a0 5 = some rv7 ∧ ((ob hv5 rv7 5) ∧ (∃ rv8, aP hv5 rv7 0 = some rv8 ∧ ((ob hv5 rv8 1) ∧ wp_X1_isSmall hv5 rv8  (fun hv9 iv10 => (¬ iv10 = 0 → ((ob hv9 a0 10) ∧ (∃ rv11, aP hv9 a0 7 = some rv11 ∧ ((ob hv9 a0 10) ∧ (∃ rv12, aP hv9 a0 5 = some rv12 ∧ ((ob hv9 rv12 5) ∧ (∃ rv13, aP hv9 rv12 0 = some rv13 ∧ ((ob hv9 a0 10) ∧ (∃ rv14, aP hv9 a0 5 = some rv14 ∧ ((ob hv9 rv14 5) ∧ (∃ rv15, aP hv9 rv14 1 = some rv15 ∧ ((ob hv9 rv11 7) ∧ wp_X8_follow hv9 rv11 rv13 rv15 (fun hv16  => (ob hv16 a0 10) ∧ (∃ rv17, aP hv16 a0 5 = some rv17 ∧ ((ob hv16 rv17 5) ∧ (∃ rv18, aP hv16 rv17 1 = some rv18 ∧ ((ob hv16 rv18 7) ∧ (∃ rv19, aP hv16 rv18 1 = some rv19 ∧ ((ob hv16 rv19 13) ∧ ((vp_in x1 (aL hv16 rv19)) ∧ (∀ iv20 : Int32, iv20 = aI hv16 rv19 x1.toNatClampNeg → ((ob hv16 a0 10) ∧ (∃ rv21, aP hv16 a0 5 = some rv21 ∧ ((ob hv16 rv21 5) ∧ (∃ rv22, aP hv16 rv21 1 = some rv22 ∧ ((ob hv16 rv22 7) ∧ (∃ rv23, aP hv16 rv22 1 = some rv23 ∧ ((ob hv16 rv23 13) ∧ ((vp_in x2 (aL hv16 rv23)) ∧ (∀ iv24 : Int32, iv24 = aI hv16 rv23 x2.toNatClampNeg → ((ob hv16 a0 10) ∧ (∃ rv25, aP hv16 a0 7 = some rv25 ∧ ((ob hv16 rv25 7) ∧ wp_X8_put hv16 rv25 x1 ((iv20 &&& (64 : Int32)) ||| (iv24 &&& (63 : Int32))) (fun hv26  => (ob hv26 a0 10) ∧ (∃ rv27, aP hv26 a0 7 = some rv27 ∧ ((ob hv26 rv27 7) ∧ wp_X8_put hv26 rv27 x2 ((iv24 &&& (64 : Int32)) ||| (iv20 &&& (63 : Int32))) (fun hv28  => (ob hv28 a0 10) ∧ (∃ rv29, aP hv28 a0 7 = some rv29 ∧ ((ob hv28 rv29 7) ∧ wp_X8_isSound hv28 rv29  (fun hv30 iv31 => (¬ iv31 = 0 → ((ob hv30 a0 10) ∧ (∃ rv32, aP hv30 a0 14 = some rv32 ∧ ((ob hv30 a0 10) ∧ (∃ rv33, aP hv30 a0 5 = some rv33 ∧ ((ob hv30 rv33 5) ∧ (∃ rv34, aP hv30 rv33 0 = some rv34 ∧ ((ob hv30 a0 10) ∧ (∃ rv35, aP hv30 a0 5 = some rv35 ∧ ((ob hv30 rv35 5) ∧ (∃ rv36, aP hv30 rv35 1 = some rv36 ∧ ((ob hv30 a0 10) ∧ (∃ rv37, aP hv30 a0 7 = some rv37 ∧ ((ob hv30 rv32 6) ∧ wp_X6_leastActs hv30 rv32 rv34 rv36 rv37 x3 (fun hv38 iv39 => post hv38 iv39))))))))))))))) ∧ (iv31 = 0 → (post hv30 (-2))))))))))))))))))))))))))))))))))))))))))) ∧ (iv10 = 0 → (post hv9 (-2)))))))))))))))))))
set_option maxRecDepth 100000 in
theorem c_X11_changed (G : GG) (h : AH) (a0 : Nat) (x1 : Int32) (x2 : Int32) (x3 : Int32) (post : AH → Int32 → Prop) (hw : wp_X11_changed h a0 x1 x2 x3 post) : MC G yX11_changed cX11_changed 6 (some .int) 6 152 h [.ref (G.1 + a0), .int x1, .int x2, .int x3] (pI post) := by
  refine MC.of (lv := [(0, .ref (G.1 + a0)), (1, .int x1), (2, .int x2), (3, .int x3)]) (by decide) (Nat.le_of_ble_eq_true rfl) rfl fun p l e R s m args below meth c C hr hnm => ?_
  unfold wp_X11_changed at hw
  refine r_aload_n C dX11_changed_0 0 rfl ?_
  refine r_iload_n C dX11_changed_1 1 rfl ?_
  have hob := hw.1
  replace hw := hw.2
  refine r_callV C (As := [.int x1]) (rest := []) (c_X11_isRaft G h a0 x1 _ hw) yl_X11_isRaft (gm4 (List.mem_of_getElem? (i := 145) rfl) rfl) (gm4 (List.mem_of_getElem? (i := 147) rfl) rfl) (ci := 10) rfl (by decide) (gsel (List.mem_of_getElem? (i := 16) rfl)) hob (by decide) rfl (Nat.le_of_ble_eq_true rfl) dX11_changed_2 rfl (kI fun hv1 iv2 hw => ?_)
  refine r_if_eq C dX11_changed_5 41 (by decide) (fun hc => ?_) (fun hc => ?_)
  · replace hw := hw.1 hc
    refine r_bipush (v := (-2)) C dX11_changed_41 (by decide) ?_
    exact r_iret C hr dX11_changed_43 hw
  · replace hw := hw.2 hc
    refine r_aload_n C dX11_changed_8 0 rfl ?_
    refine r_iload_n C dX11_changed_9 2 rfl ?_
    have hob := hw.1
    replace hw := hw.2
    refine r_callV C (As := [.int x2]) (rest := []) (c_X11_isRaft G hv1 a0 x2 _ hw) yl_X11_isRaft (gm4 (List.mem_of_getElem? (i := 145) rfl) rfl) (gm4 (List.mem_of_getElem? (i := 147) rfl) rfl) (ci := 10) rfl (by decide) (gsel (List.mem_of_getElem? (i := 16) rfl)) hob (by decide) rfl (Nat.le_of_ble_eq_true rfl) dX11_changed_10 rfl (kI fun hv3 iv4 hw => ?_)
    refine r_if_eq C dX11_changed_13 41 (by decide) (fun hc => ?_) (fun hc => ?_)
    · replace hw := hw.1 hc
      refine r_bipush (v := (-2)) C dX11_changed_41 (by decide) ?_
      exact r_iret C hr dX11_changed_43 hw
    · replace hw := hw.2 hc
      refine r_iload_n C dX11_changed_16 1 rfl ?_
      refine r_iload_n C dX11_changed_17 2 rfl ?_
      refine r_icmp_eq C dX11_changed_18 41 (by decide) (fun hc => ?_) (fun hc => ?_)
      · replace hw := hw.1 hc
        refine r_bipush (v := (-2)) C dX11_changed_41 (by decide) ?_
        exact r_iret C hr dX11_changed_43 hw
      · replace hw := hw.2 hc
        refine r_iload_n C dX11_changed_21 3 rfl ?_
        refine r_callS C (As := [.int x3]) (rest := []) (c_X11_isHour G hv3 x3 _ hw) yl_X11_isHour (gm4 (List.mem_of_getElem? (i := 90) rfl) rfl) (gm4 (List.mem_of_getElem? (i := 91) rfl) rfl) (by decide) rfl (Nat.le_of_ble_eq_true rfl) dX11_changed_22 rfl (kI fun hv5 iv6 hw => ?_)
        refine r_if_eq C dX11_changed_25 41 (by decide) (fun hc => ?_) (fun hc => ?_)
        · replace hw := hw.1 hc
          refine r_bipush (v := (-2)) C dX11_changed_41 (by decide) ?_
          exact r_iret C hr dX11_changed_43 hw
        · replace hw := hw.2 hc
          refine r_aload_n C dX11_changed_28 0 rfl ?_
          have hob := hw.1
          obtain ⟨rv7, hp, hw⟩ := hw.2
          refine r_getP C fl_RX11_30_10 hob hp (fun _ _ _ => rfl) dX11_changed_29 ?_
          have hob := hw.1
          obtain ⟨rv8, hp, hw⟩ := hw.2
          refine r_getP C fl_RX11_40_5 hob hp (fun _ _ _ => rfl) dX11_changed_32 ?_
          have hob := hw.1
          replace hw := hw.2
          refine r_callV C (As := []) (rest := []) (c_X1_isSmall G hv5 rv8  _ hw) yl_X1_isSmall (gm5 (List.mem_of_getElem? (i := 80) rfl) rfl) (gm5 (List.mem_of_getElem? (i := 81) rfl) rfl) (ci := 1) rfl (by decide) (gm5 (List.mem_of_getElem? (i := 82) rfl) rfl) hob (by decide) rfl (Nat.le_of_ble_eq_true rfl) dX11_changed_35 rfl (kI fun hv9 iv10 hw => ?_)
          refine r_if_ne C dX11_changed_38 44 (by decide) (fun hc => ?_) (fun hc => ?_)
          · replace hw := hw.1 hc
            refine r_aload_n C dX11_changed_44 0 rfl ?_
            have hob := hw.1
            obtain ⟨rv11, hp, hw⟩ := hw.2
            refine r_getP C fl_RX11_47_10 hob hp (fun _ _ _ => rfl) dX11_changed_45 ?_
            refine r_aload_n C dX11_changed_48 0 rfl ?_
            have hob := hw.1
            obtain ⟨rv12, hp, hw⟩ := hw.2
            refine r_getP C fl_RX11_30_10 hob hp (fun _ _ _ => rfl) dX11_changed_49 ?_
            have hob := hw.1
            obtain ⟨rv13, hp, hw⟩ := hw.2
            refine r_getP C fl_RX11_40_5 hob hp (fun _ _ _ => rfl) dX11_changed_52 ?_
            refine r_aload_n C dX11_changed_55 0 rfl ?_
            have hob := hw.1
            obtain ⟨rv14, hp, hw⟩ := hw.2
            refine r_getP C fl_RX11_30_10 hob hp (fun _ _ _ => rfl) dX11_changed_56 ?_
            have hob := hw.1
            obtain ⟨rv15, hp, hw⟩ := hw.2
            refine r_getP C fl_RX11_132_5 hob hp (fun _ _ _ => rfl) dX11_changed_59 ?_
            have hob := hw.1
            replace hw := hw.2
            refine r_callV C (As := [.ref (G.1 + rv13), .ref (G.1 + rv15)]) (rest := []) (c_X8_follow G hv9 rv11 rv13 rv15 _ hw) yl_X8_follow (gm4 (List.mem_of_getElem? (i := 116) rfl) rfl) (gm4 (List.mem_of_getElem? (i := 117) rfl) rfl) (ci := 7) rfl (by decide) (gm4 (List.mem_of_getElem? (i := 118) rfl) rfl) hob (by decide) rfl (Nat.le_of_ble_eq_true rfl) dX11_changed_62 rfl (kV fun hv16  hw => ?_)
            refine r_aload_n C dX11_changed_65 0 rfl ?_
            have hob := hw.1
            obtain ⟨rv17, hp, hw⟩ := hw.2
            refine r_getP C fl_RX11_30_10 hob hp (fun _ _ _ => rfl) dX11_changed_66 ?_
            have hob := hw.1
            obtain ⟨rv18, hp, hw⟩ := hw.2
            refine r_getP C fl_RX11_132_5 hob hp (fun _ _ _ => rfl) dX11_changed_69 ?_
            have hob := hw.1
            obtain ⟨rv19, hp, hw⟩ := hw.2
            refine r_getP C fl_RX11_135_7 hob hp (fun _ _ _ => rfl) dX11_changed_72 ?_
            refine r_iload_n C dX11_changed_75 1 rfl ?_
            refine r_iaload C hw.1 hw.2.1 dX11_changed_76 ?_
            replace hw := hw.2.2
            refine r_topi fun iv20 eiv20 => ?_
            replace hw := hw iv20 eiv20
            refine r_istore C dX11_changed_77 [(4, .int iv20), (0, .ref (G.1 + a0)), (1, .int x1), (2, .int x2), (3, .int x3)] (by decide) rfl ?_
            refine r_aload_n C dX11_changed_79 1 rfl ?_
            have hob := hw.1
            obtain ⟨rv21, hp, hw⟩ := hw.2
            refine r_getP C fl_RX11_30_10 hob hp (fun _ _ _ => rfl) dX11_changed_80 ?_
            have hob := hw.1
            obtain ⟨rv22, hp, hw⟩ := hw.2
            refine r_getP C fl_RX11_132_5 hob hp (fun _ _ _ => rfl) dX11_changed_83 ?_
            have hob := hw.1
            obtain ⟨rv23, hp, hw⟩ := hw.2
            refine r_getP C fl_RX11_135_7 hob hp (fun _ _ _ => rfl) dX11_changed_86 ?_
            refine r_iload_n C dX11_changed_89 3 rfl ?_
            refine r_iaload C hw.1 hw.2.1 dX11_changed_90 ?_
            replace hw := hw.2.2
            refine r_topi fun iv24 eiv24 => ?_
            replace hw := hw iv24 eiv24
            refine r_istore C dX11_changed_91 [(5, .int iv24), (4, .int iv20), (0, .ref (G.1 + a0)), (1, .int x1), (2, .int x2), (3, .int x3)] (by decide) rfl ?_
            refine r_aload_n C dX11_changed_93 2 rfl ?_
            have hob := hw.1
            obtain ⟨rv25, hp, hw⟩ := hw.2
            refine r_getP C fl_RX11_47_10 hob hp (fun _ _ _ => rfl) dX11_changed_94 ?_
            refine r_iload_n C dX11_changed_97 3 rfl ?_
            refine r_iload C dX11_changed_98 1 rfl ?_
            refine r_bipush (v := 64) C dX11_changed_100 (by decide) ?_
            refine r_iand C dX11_changed_102 ?_
            refine r_iload C dX11_changed_103 0 rfl ?_
            refine r_bipush (v := 63) C dX11_changed_105 (by decide) ?_
            refine r_iand C dX11_changed_107 ?_
            refine r_ior C dX11_changed_108 ?_
            have hob := hw.1
            replace hw := hw.2
            refine r_callV C (As := [.int x1, .int ((iv20 &&& (64 : Int32)) ||| (iv24 &&& (63 : Int32)))]) (rest := []) (c_X8_put G hv16 rv25 x1 ((iv20 &&& (64 : Int32)) ||| (iv24 &&& (63 : Int32))) _ hw) yl_X8_put (gm4 (List.mem_of_getElem? (i := 189) rfl) rfl) (gm4 (List.mem_of_getElem? (i := 74) rfl) rfl) (ci := 7) rfl (by decide) (gm4 (List.mem_of_getElem? (i := 75) rfl) rfl) hob (by decide) rfl (Nat.le_of_ble_eq_true rfl) dX11_changed_109 rfl (kV fun hv26  hw => ?_)
            refine r_aload_n C dX11_changed_112 2 rfl ?_
            have hob := hw.1
            obtain ⟨rv27, hp, hw⟩ := hw.2
            refine r_getP C fl_RX11_47_10 hob hp (fun _ _ _ => rfl) dX11_changed_113 ?_
            refine r_iload_n C dX11_changed_116 4 rfl ?_
            refine r_iload C dX11_changed_117 0 rfl ?_
            refine r_bipush (v := 64) C dX11_changed_119 (by decide) ?_
            refine r_iand C dX11_changed_121 ?_
            refine r_iload C dX11_changed_122 1 rfl ?_
            refine r_bipush (v := 63) C dX11_changed_124 (by decide) ?_
            refine r_iand C dX11_changed_126 ?_
            refine r_ior C dX11_changed_127 ?_
            have hob := hw.1
            replace hw := hw.2
            refine r_callV C (As := [.int x2, .int ((iv24 &&& (64 : Int32)) ||| (iv20 &&& (63 : Int32)))]) (rest := []) (c_X8_put G hv26 rv27 x2 ((iv24 &&& (64 : Int32)) ||| (iv20 &&& (63 : Int32))) _ hw) yl_X8_put (gm4 (List.mem_of_getElem? (i := 189) rfl) rfl) (gm4 (List.mem_of_getElem? (i := 74) rfl) rfl) (ci := 7) rfl (by decide) (gm4 (List.mem_of_getElem? (i := 75) rfl) rfl) hob (by decide) rfl (Nat.le_of_ble_eq_true rfl) dX11_changed_128 rfl (kV fun hv28  hw => ?_)
            refine r_aload_n C dX11_changed_131 2 rfl ?_
            have hob := hw.1
            obtain ⟨rv29, hp, hw⟩ := hw.2
            refine r_getP C fl_RX11_47_10 hob hp (fun _ _ _ => rfl) dX11_changed_132 ?_
            have hob := hw.1
            replace hw := hw.2
            refine r_callV C (As := []) (rest := []) (c_X8_isSound G hv28 rv29  _ hw) yl_X8_isSound (gm5 (List.mem_of_getElem? (i := 186) rfl) rfl) (gm4 (List.mem_of_getElem? (i := 112) rfl) rfl) (ci := 7) rfl (by decide) (gm4 (List.mem_of_getElem? (i := 113) rfl) rfl) hob (by decide) rfl (Nat.le_of_ble_eq_true rfl) dX11_changed_135 rfl (kI fun hv30 iv31 hw => ?_)
            refine r_if_ne C dX11_changed_138 144 (by decide) (fun hc => ?_) (fun hc => ?_)
            · replace hw := hw.1 hc
              refine r_aload_n C dX11_changed_144 2 rfl ?_
              have hob := hw.1
              obtain ⟨rv32, hp, hw⟩ := hw.2
              refine r_getP C fl_RX11_67_10 hob hp (fun _ _ _ => rfl) dX11_changed_145 ?_
              refine r_aload_n C dX11_changed_148 2 rfl ?_
              have hob := hw.1
              obtain ⟨rv33, hp, hw⟩ := hw.2
              refine r_getP C fl_RX11_30_10 hob hp (fun _ _ _ => rfl) dX11_changed_149 ?_
              have hob := hw.1
              obtain ⟨rv34, hp, hw⟩ := hw.2
              refine r_getP C fl_RX11_40_5 hob hp (fun _ _ _ => rfl) dX11_changed_152 ?_
              refine r_aload_n C dX11_changed_155 2 rfl ?_
              have hob := hw.1
              obtain ⟨rv35, hp, hw⟩ := hw.2
              refine r_getP C fl_RX11_30_10 hob hp (fun _ _ _ => rfl) dX11_changed_156 ?_
              have hob := hw.1
              obtain ⟨rv36, hp, hw⟩ := hw.2
              refine r_getP C fl_RX11_132_5 hob hp (fun _ _ _ => rfl) dX11_changed_159 ?_
              refine r_aload_n C dX11_changed_162 2 rfl ?_
              have hob := hw.1
              obtain ⟨rv37, hp, hw⟩ := hw.2
              refine r_getP C fl_RX11_47_10 hob hp (fun _ _ _ => rfl) dX11_changed_163 ?_
              refine r_iload_n C dX11_changed_166 5 rfl ?_
              have hob := hw.1
              replace hw := hw.2
              refine r_callV C (As := [.ref (G.1 + rv34), .ref (G.1 + rv36), .ref (G.1 + rv37), .int x3]) (rest := []) (c_X6_leastActs G hv30 rv32 rv34 rv36 rv37 x3 _ hw) yl_X6_leastActs (gm5 (List.mem_of_getElem? (i := 84) rfl) rfl) (gm5 (List.mem_of_getElem? (i := 85) rfl) rfl) (ci := 6) rfl (by decide) (gm5 (List.mem_of_getElem? (i := 86) rfl) rfl) hob (by decide) rfl (Nat.le_of_ble_eq_true rfl) dX11_changed_167 rfl (kI fun hv38 iv39 hw => ?_)
              exact r_iret C hr dX11_changed_170 hw
            · replace hw := hw.2 hc
              refine r_bipush (v := (-2)) C dX11_changed_141 (by decide) ?_
              exact r_iret C hr dX11_changed_143 hw
          · replace hw := hw.2 hc
            refine r_bipush (v := (-2)) C dX11_changed_41 (by decide) ?_
            exact r_iret C hr dX11_changed_43 hw
theorem dX11_spotFor_0 : decode cX11_spotFor 0 = .ok (.aload_n 0, 1) := by decide +kernel
theorem dX11_spotFor_1 : decode cX11_spotFor 1 = .ok (.iload_n 1, 1) := by decide +kernel
theorem dX11_spotFor_2 : decode cX11_spotFor 2 = .ok (.invokevirtual 126, 3) := by decide +kernel
theorem dX11_spotFor_5 : decode cX11_spotFor 5 = .ok (.ifCond .eq 29, 3) := by decide +kernel
theorem dX11_spotFor_8 : decode cX11_spotFor 8 = .ok (.aload_n 0, 1) := by decide +kernel
theorem dX11_spotFor_9 : decode cX11_spotFor 9 = .ok (.getfield 30, 3) := by decide +kernel
theorem dX11_spotFor_12 : decode cX11_spotFor 12 = .ok (.getfield 40, 3) := by decide +kernel
theorem dX11_spotFor_15 : decode cX11_spotFor 15 = .ok (.iload_n 2, 1) := by decide +kernel
theorem dX11_spotFor_16 : decode cX11_spotFor 16 = .ok (.iload_n 3, 1) := by decide +kernel
theorem dX11_spotFor_17 : decode cX11_spotFor 17 = .ok (.invokevirtual 103, 3) := by decide +kernel
theorem dX11_spotFor_20 : decode cX11_spotFor 20 = .ok (.ifCond .eq 14, 3) := by decide +kernel
theorem dX11_spotFor_23 : decode cX11_spotFor 23 = .ok (.iload 4, 2) := by decide +kernel
theorem dX11_spotFor_25 : decode cX11_spotFor 25 = .ok (.ifCond .lt 9, 3) := by decide +kernel
theorem dX11_spotFor_28 : decode cX11_spotFor 28 = .ok (.iload 4, 2) := by decide +kernel
theorem dX11_spotFor_30 : decode cX11_spotFor 30 = .ok (.iconst 1, 1) := by decide +kernel
theorem dX11_spotFor_31 : decode cX11_spotFor 31 = .ok (.if_icmp .le 5, 3) := by decide +kernel
theorem dX11_spotFor_34 : decode cX11_spotFor 34 = .ok (.iconst (-1), 1) := by decide +kernel
theorem dX11_spotFor_35 : decode cX11_spotFor 35 = .ok (.ireturn, 1) := by decide +kernel
theorem dX11_spotFor_36 : decode cX11_spotFor 36 = .ok (.aload_n 0, 1) := by decide +kernel
theorem dX11_spotFor_37 : decode cX11_spotFor 37 = .ok (.getfield 30, 3) := by decide +kernel
theorem dX11_spotFor_40 : decode cX11_spotFor 40 = .ok (.getfield 40, 3) := by decide +kernel
theorem dX11_spotFor_43 : decode cX11_spotFor 43 = .ok (.iload_n 1, 1) := by decide +kernel
theorem dX11_spotFor_44 : decode cX11_spotFor 44 = .ok (.bipush 8, 2) := by decide +kernel
theorem dX11_spotFor_46 : decode cX11_spotFor 46 = .ok (.iload_n 3, 1) := by decide +kernel
theorem dX11_spotFor_47 : decode cX11_spotFor 47 = .ok (.imul, 1) := by decide +kernel
theorem dX11_spotFor_48 : decode cX11_spotFor 48 = .ok (.iload_n 2, 1) := by decide +kernel
theorem dX11_spotFor_49 : decode cX11_spotFor 49 = .ok (.iadd, 1) := by decide +kernel
theorem dX11_spotFor_50 : decode cX11_spotFor 50 = .ok (.iload 4, 2) := by decide +kernel
theorem dX11_spotFor_52 : decode cX11_spotFor 52 = .ok (.invokevirtual 350, 3) := by decide +kernel
theorem dX11_spotFor_55 : decode cX11_spotFor 55 = .ok (.istore 5, 2) := by decide +kernel
theorem dX11_spotFor_57 : decode cX11_spotFor 57 = .ok (.aload_n 0, 1) := by decide +kernel
theorem dX11_spotFor_58 : decode cX11_spotFor 58 = .ok (.getfield 30, 3) := by decide +kernel
theorem dX11_spotFor_61 : decode cX11_spotFor 61 = .ok (.getfield 40, 3) := by decide +kernel
theorem dX11_spotFor_64 : decode cX11_spotFor 64 = .ok (.iload_n 1, 1) := by decide +kernel
theorem dX11_spotFor_65 : decode cX11_spotFor 65 = .ok (.iload 5, 2) := by decide +kernel
theorem dX11_spotFor_67 : decode cX11_spotFor 67 = .ok (.invokevirtual 353, 3) := by decide +kernel
theorem dX11_spotFor_70 : decode cX11_spotFor 70 = .ok (.ifCond .eq 8, 3) := by decide +kernel
theorem dX11_spotFor_73 : decode cX11_spotFor 73 = .ok (.iload 5, 2) := by decide +kernel
theorem dX11_spotFor_75 : decode cX11_spotFor 75 = .ok (.goto 4, 3) := by decide +kernel
theorem dX11_spotFor_78 : decode cX11_spotFor 78 = .ok (.iconst (-1), 1) := by decide +kernel
theorem dX11_spotFor_79 : decode cX11_spotFor 79 = .ok (.ireturn, 1) := by decide +kernel
def wp_X11_spotFor (h : AH) (a0 : Nat) (x1 : Int32) (x2 : Int32) (x3 : Int32) (x4 : Int32) (post : AH → Int32 → Prop) : Prop := (ob h a0 10) ∧ wp_X11_isRaft h a0 x1 (fun hv1 iv2 => (iv2 = 0 → (post hv1 (-1))) ∧ (¬ iv2 = 0 → ((ob hv1 a0 10) ∧ (∃ rv3, aP hv1 a0 5 = some rv3 ∧ ((ob hv1 rv3 5) ∧ (∃ rv4, aP hv1 rv3 0 = some rv4 ∧ ((ob hv1 rv4 1) ∧ wp_X1_hasCell hv1 rv4 x2 x3 (fun hv5 iv6 => (iv6 = 0 → (post hv5 (-1))) ∧ (¬ iv6 = 0 → ((x4 < 0 → (post hv5 (-1))) ∧ (¬ x4 < 0 → ((x4 ≤ 1 → ((ob hv5 a0 10) ∧ (∃ rv7, aP hv5 a0 5 = some rv7 ∧ ((ob hv5 rv7 5) ∧ (∃ rv8, aP hv5 rv7 0 = some rv8 ∧ ((ob hv5 rv8 1) ∧ wp_X1_spotOf hv5 rv8 x1 (((8 : Int32) * x3) + x2) x4 (fun hv9 iv10 => (ob hv9 a0 10) ∧ (∃ rv11, aP hv9 a0 5 = some rv11 ∧ ((ob hv9 rv11 5) ∧ (∃ rv12, aP hv9 rv11 0 = some rv12 ∧ ((ob hv9 rv12 1) ∧ wp_X1_holds hv9 rv12 x1 iv10 (fun hv13 iv14 => (iv14 = 0 → (post hv13 (-1))) ∧ (¬ iv14 = 0 → (post hv13 iv10)))))))))))))) ∧ (¬ x4 ≤ 1 → (post hv5 (-1)))))))))))))))
set_option maxRecDepth 100000 in
theorem c_X11_spotFor (G : GG) (h : AH) (a0 : Nat) (x1 : Int32) (x2 : Int32) (x3 : Int32) (x4 : Int32) (post : AH → Int32 → Prop) (hw : wp_X11_spotFor h a0 x1 x2 x3 x4 post) : MC G yX11_spotFor cX11_spotFor 6 (some .int) 2 44 h [.ref (G.1 + a0), .int x1, .int x2, .int x3, .int x4] (pI post) := by
  refine MC.of (lv := [(0, .ref (G.1 + a0)), (1, .int x1), (2, .int x2), (3, .int x3), (4, .int x4)]) (by decide) (Nat.le_of_ble_eq_true rfl) rfl fun p l e R s m args below meth c C hr hnm => ?_
  unfold wp_X11_spotFor at hw
  refine r_aload_n C dX11_spotFor_0 0 rfl ?_
  refine r_iload_n C dX11_spotFor_1 1 rfl ?_
  have hob := hw.1
  replace hw := hw.2
  refine r_callV C (As := [.int x1]) (rest := []) (c_X11_isRaft G h a0 x1 _ hw) yl_X11_isRaft (gm4 (List.mem_of_getElem? (i := 145) rfl) rfl) (gm4 (List.mem_of_getElem? (i := 147) rfl) rfl) (ci := 10) rfl (by decide) (gsel (List.mem_of_getElem? (i := 16) rfl)) hob (by decide) rfl (Nat.le_of_ble_eq_true rfl) dX11_spotFor_2 rfl (kI fun hv1 iv2 hw => ?_)
  refine r_if_eq C dX11_spotFor_5 34 (by decide) (fun hc => ?_) (fun hc => ?_)
  · replace hw := hw.1 hc
    refine r_iconst (v := (-1)) C dX11_spotFor_34 (by decide) ?_
    exact r_iret C hr dX11_spotFor_35 hw
  · replace hw := hw.2 hc
    refine r_aload_n C dX11_spotFor_8 0 rfl ?_
    have hob := hw.1
    obtain ⟨rv3, hp, hw⟩ := hw.2
    refine r_getP C fl_RX11_30_10 hob hp (fun _ _ _ => rfl) dX11_spotFor_9 ?_
    have hob := hw.1
    obtain ⟨rv4, hp, hw⟩ := hw.2
    refine r_getP C fl_RX11_40_5 hob hp (fun _ _ _ => rfl) dX11_spotFor_12 ?_
    refine r_iload_n C dX11_spotFor_15 2 rfl ?_
    refine r_iload_n C dX11_spotFor_16 3 rfl ?_
    have hob := hw.1
    replace hw := hw.2
    refine r_callV C (As := [.int x2, .int x3]) (rest := []) (c_X1_hasCell G hv1 rv4 x2 x3 _ hw) yl_X1_hasCell (gm4 (List.mem_of_getElem? (i := 86) rfl) rfl) (gm4 (List.mem_of_getElem? (i := 87) rfl) rfl) (ci := 1) rfl (by decide) (gm4 (List.mem_of_getElem? (i := 88) rfl) rfl) hob (by decide) rfl (Nat.le_of_ble_eq_true rfl) dX11_spotFor_17 rfl (kI fun hv5 iv6 hw => ?_)
    refine r_if_eq C dX11_spotFor_20 34 (by decide) (fun hc => ?_) (fun hc => ?_)
    · replace hw := hw.1 hc
      refine r_iconst (v := (-1)) C dX11_spotFor_34 (by decide) ?_
      exact r_iret C hr dX11_spotFor_35 hw
    · replace hw := hw.2 hc
      refine r_iload C dX11_spotFor_23 4 rfl ?_
      refine r_if_lt C dX11_spotFor_25 34 (by decide) (fun hc => ?_) (fun hc => ?_)
      · replace hw := hw.1 hc
        refine r_iconst (v := (-1)) C dX11_spotFor_34 (by decide) ?_
        exact r_iret C hr dX11_spotFor_35 hw
      · replace hw := hw.2 hc
        refine r_iload C dX11_spotFor_28 4 rfl ?_
        refine r_iconst (v := 1) C dX11_spotFor_30 (by decide) ?_
        refine r_icmp_le C dX11_spotFor_31 36 (by decide) (fun hc => ?_) (fun hc => ?_)
        · replace hw := hw.1 hc
          refine r_aload_n C dX11_spotFor_36 0 rfl ?_
          have hob := hw.1
          obtain ⟨rv7, hp, hw⟩ := hw.2
          refine r_getP C fl_RX11_30_10 hob hp (fun _ _ _ => rfl) dX11_spotFor_37 ?_
          have hob := hw.1
          obtain ⟨rv8, hp, hw⟩ := hw.2
          refine r_getP C fl_RX11_40_5 hob hp (fun _ _ _ => rfl) dX11_spotFor_40 ?_
          refine r_iload_n C dX11_spotFor_43 1 rfl ?_
          refine r_bipush (v := 8) C dX11_spotFor_44 (by decide) ?_
          refine r_iload_n C dX11_spotFor_46 3 rfl ?_
          refine r_imul C dX11_spotFor_47 ?_
          refine r_iload_n C dX11_spotFor_48 2 rfl ?_
          refine r_iadd C dX11_spotFor_49 ?_
          refine r_iload C dX11_spotFor_50 4 rfl ?_
          have hob := hw.1
          replace hw := hw.2
          refine r_callV C (As := [.int x1, .int (((8 : Int32) * x3) + x2), .int x4]) (rest := []) (c_X1_spotOf G hv5 rv8 x1 (((8 : Int32) * x3) + x2) x4 _ hw) yl_X1_spotOf (gm5 (List.mem_of_getElem? (i := 195) rfl) rfl) (gm4 (List.mem_of_getElem? (i := 108) rfl) rfl) (ci := 1) rfl (by decide) (gm4 (List.mem_of_getElem? (i := 109) rfl) rfl) hob (by decide) rfl (Nat.le_of_ble_eq_true rfl) dX11_spotFor_52 rfl (kI fun hv9 iv10 hw => ?_)
          refine r_istore C dX11_spotFor_55 [(5, .int iv10), (0, .ref (G.1 + a0)), (1, .int x1), (2, .int x2), (3, .int x3), (4, .int x4)] (by decide) rfl ?_
          refine r_aload_n C dX11_spotFor_57 1 rfl ?_
          have hob := hw.1
          obtain ⟨rv11, hp, hw⟩ := hw.2
          refine r_getP C fl_RX11_30_10 hob hp (fun _ _ _ => rfl) dX11_spotFor_58 ?_
          have hob := hw.1
          obtain ⟨rv12, hp, hw⟩ := hw.2
          refine r_getP C fl_RX11_40_5 hob hp (fun _ _ _ => rfl) dX11_spotFor_61 ?_
          refine r_iload_n C dX11_spotFor_64 2 rfl ?_
          refine r_iload C dX11_spotFor_65 0 rfl ?_
          have hob := hw.1
          replace hw := hw.2
          refine r_callV C (As := [.int x1, .int iv10]) (rest := []) (c_X1_holds G hv9 rv12 x1 iv10 _ hw) yl_X1_holds (gm5 (List.mem_of_getElem? (i := 196) rfl) rfl) (gm3 (List.mem_of_getElem? (i := 207) rfl) rfl) (ci := 1) rfl (by decide) (gm3 (List.mem_of_getElem? (i := 208) rfl) rfl) hob (by decide) rfl (Nat.le_of_ble_eq_true rfl) dX11_spotFor_67 rfl (kI fun hv13 iv14 hw => ?_)
          refine r_if_eq C dX11_spotFor_70 78 (by decide) (fun hc => ?_) (fun hc => ?_)
          · replace hw := hw.1 hc
            refine r_iconst (v := (-1)) C dX11_spotFor_78 (by decide) ?_
            exact r_iret C hr dX11_spotFor_79 hw
          · replace hw := hw.2 hc
            refine r_iload C dX11_spotFor_73 0 rfl ?_
            refine r_goto C dX11_spotFor_75 79 (by decide) ?_
            exact r_iret C hr dX11_spotFor_79 hw
        · replace hw := hw.2 hc
          refine r_iconst (v := (-1)) C dX11_spotFor_34 (by decide) ?_
          exact r_iret C hr dX11_spotFor_35 hw
theorem dX11_alone_0 : decode cX11_alone 0 = .ok (.aload_n 0, 1) := by decide +kernel
theorem dX11_alone_1 : decode cX11_alone 1 = .ok (.iload_n 1, 1) := by decide +kernel
theorem dX11_alone_2 : decode cX11_alone 2 = .ok (.iload_n 2, 1) := by decide +kernel
theorem dX11_alone_3 : decode cX11_alone 3 = .ok (.iload_n 3, 1) := by decide +kernel
theorem dX11_alone_4 : decode cX11_alone 4 = .ok (.iload 4, 2) := by decide +kernel
theorem dX11_alone_6 : decode cX11_alone 6 = .ok (.invokevirtual 270, 3) := by decide +kernel
theorem dX11_alone_9 : decode cX11_alone 9 = .ok (.istore 6, 2) := by decide +kernel
theorem dX11_alone_11 : decode cX11_alone 11 = .ok (.iload 6, 2) := by decide +kernel
theorem dX11_alone_13 : decode cX11_alone 13 = .ok (.ifCond .lt 11, 3) := by decide +kernel
theorem dX11_alone_16 : decode cX11_alone 16 = .ok (.iload 5, 2) := by decide +kernel
theorem dX11_alone_18 : decode cX11_alone 18 = .ok (.invokestatic 109, 3) := by decide +kernel
theorem dX11_alone_21 : decode cX11_alone 21 = .ok (.ifCond .ne 6, 3) := by decide +kernel
theorem dX11_alone_24 : decode cX11_alone 24 = .ok (.bipush (-2), 2) := by decide +kernel
theorem dX11_alone_26 : decode cX11_alone 26 = .ok (.ireturn, 1) := by decide +kernel
theorem dX11_alone_27 : decode cX11_alone 27 = .ok (.aload_n 0, 1) := by decide +kernel
theorem dX11_alone_28 : decode cX11_alone 28 = .ok (.getfield 67, 3) := by decide +kernel
theorem dX11_alone_31 : decode cX11_alone 31 = .ok (.aload_n 0, 1) := by decide +kernel
theorem dX11_alone_32 : decode cX11_alone 32 = .ok (.getfield 30, 3) := by decide +kernel
theorem dX11_alone_35 : decode cX11_alone 35 = .ok (.getfield 40, 3) := by decide +kernel
theorem dX11_alone_38 : decode cX11_alone 38 = .ok (.aload_n 0, 1) := by decide +kernel
theorem dX11_alone_39 : decode cX11_alone 39 = .ok (.getfield 30, 3) := by decide +kernel
theorem dX11_alone_42 : decode cX11_alone 42 = .ok (.getfield 132, 3) := by decide +kernel
theorem dX11_alone_45 : decode cX11_alone 45 = .ok (.iload_n 1, 1) := by decide +kernel
theorem dX11_alone_46 : decode cX11_alone 46 = .ok (.iload 6, 2) := by decide +kernel
theorem dX11_alone_48 : decode cX11_alone 48 = .ok (.iload 5, 2) := by decide +kernel
theorem dX11_alone_50 : decode cX11_alone 50 = .ok (.invokevirtual 273, 3) := by decide +kernel
theorem dX11_alone_53 : decode cX11_alone 53 = .ok (.ireturn, 1) := by decide +kernel
def wp_X11_alone (h : AH) (a0 : Nat) (x1 : Int32) (x2 : Int32) (x3 : Int32) (x4 : Int32) (x5 : Int32) (post : AH → Int32 → Prop) : Prop := (ob h a0 10) ∧ wp_X11_spotFor h a0 x1 x2 x3 x4 (fun hv1 iv2 => (iv2 < 0 → (post hv1 (-2))) ∧ (¬ iv2 < 0 → (wp_X11_isHour hv1 x5 (fun hv3 iv4 => (¬ iv4 = 0 → ((ob hv3 a0 10) ∧ (∃ rv5, aP hv3 a0 14 = some rv5 ∧ ((ob hv3 a0 10) ∧ (∃ rv6, aP hv3 a0 5 = some rv6 ∧ ((ob hv3 rv6 5) ∧ (∃ rv7, aP hv3 rv6 0 = some rv7 ∧ ((ob hv3 a0 10) ∧ (∃ rv8, aP hv3 a0 5 = some rv8 ∧ ((ob hv3 rv8 5) ∧ (∃ rv9, aP hv3 rv8 1 = some rv9 ∧ ((ob hv3 rv5 6) ∧ wp_X6_leastAlone hv3 rv5 rv7 rv9 x1 iv2 x5 (fun hv10 iv11 => post hv10 iv11))))))))))))) ∧ (iv4 = 0 → (post hv3 (-2)))))))
set_option maxRecDepth 100000 in
theorem c_X11_alone (G : GG) (h : AH) (a0 : Nat) (x1 : Int32) (x2 : Int32) (x3 : Int32) (x4 : Int32) (x5 : Int32) (post : AH → Int32 → Prop) (hw : wp_X11_alone h a0 x1 x2 x3 x4 x5 post) : MC G yX11_alone cX11_alone 7 (some .int) 5 131 h [.ref (G.1 + a0), .int x1, .int x2, .int x3, .int x4, .int x5] (pI post) := by
  refine MC.of (lv := [(0, .ref (G.1 + a0)), (1, .int x1), (2, .int x2), (3, .int x3), (4, .int x4), (5, .int x5)]) (by decide) (Nat.le_of_ble_eq_true rfl) rfl fun p l e R s m args below meth c C hr hnm => ?_
  unfold wp_X11_alone at hw
  refine r_aload_n C dX11_alone_0 0 rfl ?_
  refine r_iload_n C dX11_alone_1 1 rfl ?_
  refine r_iload_n C dX11_alone_2 2 rfl ?_
  refine r_iload_n C dX11_alone_3 3 rfl ?_
  refine r_iload C dX11_alone_4 4 rfl ?_
  have hob := hw.1
  replace hw := hw.2
  refine r_callV C (As := [.int x1, .int x2, .int x3, .int x4]) (rest := []) (c_X11_spotFor G h a0 x1 x2 x3 x4 _ hw) yl_X11_spotFor (gm5 (List.mem_of_getElem? (i := 191) rfl) rfl) (gm5 (List.mem_of_getElem? (i := 193) rfl) rfl) (ci := 10) rfl (by decide) (gsel (List.mem_of_getElem? (i := 33) rfl)) hob (by decide) rfl (Nat.le_of_ble_eq_true rfl) dX11_alone_6 rfl (kI fun hv1 iv2 hw => ?_)
  refine r_istore C dX11_alone_9 [(6, .int iv2), (0, .ref (G.1 + a0)), (1, .int x1), (2, .int x2), (3, .int x3), (4, .int x4), (5, .int x5)] (by decide) rfl ?_
  refine r_iload C dX11_alone_11 0 rfl ?_
  refine r_if_lt C dX11_alone_13 24 (by decide) (fun hc => ?_) (fun hc => ?_)
  · replace hw := hw.1 hc
    refine r_bipush (v := (-2)) C dX11_alone_24 (by decide) ?_
    exact r_iret C hr dX11_alone_26 hw
  · replace hw := hw.2 hc
    refine r_iload C dX11_alone_16 6 rfl ?_
    refine r_callS C (As := [.int x5]) (rest := []) (c_X11_isHour G hv1 x5 _ hw) yl_X11_isHour (gm4 (List.mem_of_getElem? (i := 90) rfl) rfl) (gm4 (List.mem_of_getElem? (i := 91) rfl) rfl) (by decide) rfl (Nat.le_of_ble_eq_true rfl) dX11_alone_18 rfl (kI fun hv3 iv4 hw => ?_)
    refine r_if_ne C dX11_alone_21 27 (by decide) (fun hc => ?_) (fun hc => ?_)
    · replace hw := hw.1 hc
      refine r_aload_n C dX11_alone_27 1 rfl ?_
      have hob := hw.1
      obtain ⟨rv5, hp, hw⟩ := hw.2
      refine r_getP C fl_RX11_67_10 hob hp (fun _ _ _ => rfl) dX11_alone_28 ?_
      refine r_aload_n C dX11_alone_31 1 rfl ?_
      have hob := hw.1
      obtain ⟨rv6, hp, hw⟩ := hw.2
      refine r_getP C fl_RX11_30_10 hob hp (fun _ _ _ => rfl) dX11_alone_32 ?_
      have hob := hw.1
      obtain ⟨rv7, hp, hw⟩ := hw.2
      refine r_getP C fl_RX11_40_5 hob hp (fun _ _ _ => rfl) dX11_alone_35 ?_
      refine r_aload_n C dX11_alone_38 1 rfl ?_
      have hob := hw.1
      obtain ⟨rv8, hp, hw⟩ := hw.2
      refine r_getP C fl_RX11_30_10 hob hp (fun _ _ _ => rfl) dX11_alone_39 ?_
      have hob := hw.1
      obtain ⟨rv9, hp, hw⟩ := hw.2
      refine r_getP C fl_RX11_132_5 hob hp (fun _ _ _ => rfl) dX11_alone_42 ?_
      refine r_iload_n C dX11_alone_45 2 rfl ?_
      refine r_iload C dX11_alone_46 0 rfl ?_
      refine r_iload C dX11_alone_48 6 rfl ?_
      have hob := hw.1
      replace hw := hw.2
      refine r_callV C (As := [.ref (G.1 + rv7), .ref (G.1 + rv9), .int x1, .int iv2, .int x5]) (rest := []) (c_X6_leastAlone G hv3 rv5 rv7 rv9 x1 iv2 x5 _ hw) yl_X6_leastAlone (gm5 (List.mem_of_getElem? (i := 197) rfl) rfl) (gm5 (List.mem_of_getElem? (i := 198) rfl) rfl) (ci := 6) rfl (by decide) (gm5 (List.mem_of_getElem? (i := 199) rfl) rfl) hob (by decide) rfl (Nat.le_of_ble_eq_true rfl) dX11_alone_50 rfl (kI fun hv10 iv11 hw => ?_)
      exact r_iret C hr dX11_alone_53 hw
    · replace hw := hw.2 hc
      refine r_bipush (v := (-2)) C dX11_alone_24 (by decide) ?_
      exact r_iret C hr dX11_alone_26 hw
theorem dX11_best_0 : decode cX11_best 0 = .ok (.iload_n 1, 1) := by decide +kernel
theorem dX11_best_1 : decode cX11_best 1 = .ok (.ifCond .lt 29, 3) := by decide +kernel
theorem dX11_best_4 : decode cX11_best 4 = .ok (.iload_n 1, 1) := by decide +kernel
theorem dX11_best_5 : decode cX11_best 5 = .ok (.bipush 60, 2) := by decide +kernel
theorem dX11_best_7 : decode cX11_best 7 = .ok (.if_icmp .gt 23, 3) := by decide +kernel
theorem dX11_best_10 : decode cX11_best 10 = .ok (.iload_n 2, 1) := by decide +kernel
theorem dX11_best_11 : decode cX11_best 11 = .ok (.invokestatic 109, 3) := by decide +kernel
theorem dX11_best_14 : decode cX11_best 14 = .ok (.ifCond .eq 16, 3) := by decide +kernel
theorem dX11_best_17 : decode cX11_best 17 = .ok (.aload_n 0, 1) := by decide +kernel
theorem dX11_best_18 : decode cX11_best 18 = .ok (.getfield 30, 3) := by decide +kernel
theorem dX11_best_21 : decode cX11_best 21 = .ok (.getfield 40, 3) := by decide +kernel
theorem dX11_best_24 : decode cX11_best 24 = .ok (.invokevirtual 259, 3) := by decide +kernel
theorem dX11_best_27 : decode cX11_best 27 = .ok (.ifCond .ne 6, 3) := by decide +kernel
theorem dX11_best_30 : decode cX11_best 30 = .ok (.bipush (-2), 2) := by decide +kernel
theorem dX11_best_32 : decode cX11_best 32 = .ok (.ireturn, 1) := by decide +kernel
theorem dX11_best_33 : decode cX11_best 33 = .ok (.aload_n 0, 1) := by decide +kernel
theorem dX11_best_34 : decode cX11_best 34 = .ok (.getfield 67, 3) := by decide +kernel
theorem dX11_best_37 : decode cX11_best 37 = .ok (.aload_n 0, 1) := by decide +kernel
theorem dX11_best_38 : decode cX11_best 38 = .ok (.getfield 30, 3) := by decide +kernel
theorem dX11_best_41 : decode cX11_best 41 = .ok (.getfield 40, 3) := by decide +kernel
theorem dX11_best_44 : decode cX11_best 44 = .ok (.aload_n 0, 1) := by decide +kernel
theorem dX11_best_45 : decode cX11_best 45 = .ok (.getfield 30, 3) := by decide +kernel
theorem dX11_best_48 : decode cX11_best 48 = .ok (.getfield 132, 3) := by decide +kernel
theorem dX11_best_51 : decode cX11_best 51 = .ok (.iload_n 1, 1) := by decide +kernel
theorem dX11_best_52 : decode cX11_best 52 = .ok (.iload_n 2, 1) := by decide +kernel
theorem dX11_best_53 : decode cX11_best 53 = .ok (.invokevirtual 277, 3) := by decide +kernel
theorem dX11_best_56 : decode cX11_best 56 = .ok (.ireturn, 1) := by decide +kernel
def wp_X11_best (h : AH) (a0 : Nat) (x1 : Int32) (x2 : Int32) (post : AH → Int32 → Prop) : Prop := (x1 < 0 → (post h (-2))) ∧ (¬ x1 < 0 → ((60 < x1 → (post h (-2))) ∧ (¬ 60 < x1 → (wp_X11_isHour h x2 (fun hv1 iv2 => (iv2 = 0 → (post hv1 (-2))) ∧ (¬ iv2 = 0 → ((ob hv1 a0 10) ∧ (∃ rv3, aP hv1 a0 5 = some rv3 ∧ ((ob hv1 rv3 5) ∧ (∃ rv4, aP hv1 rv3 0 = some rv4 ∧ ((ob hv1 rv4 1) ∧ wp_X1_isSmall hv1 rv4  (fun hv5 iv6 => (¬ iv6 = 0 → ((ob hv5 a0 10) ∧ (∃ rv7, aP hv5 a0 14 = some rv7 ∧ ((ob hv5 a0 10) ∧ (∃ rv8, aP hv5 a0 5 = some rv8 ∧ ((ob hv5 rv8 5) ∧ (∃ rv9, aP hv5 rv8 0 = some rv9 ∧ ((ob hv5 a0 10) ∧ (∃ rv10, aP hv5 a0 5 = some rv10 ∧ ((ob hv5 rv10 5) ∧ (∃ rv11, aP hv5 rv10 1 = some rv11 ∧ ((ob hv5 rv7 6) ∧ wp_X6_mostMet hv5 rv7 rv9 rv11 x1 x2 (fun hv12 iv13 => post hv12 iv13))))))))))))) ∧ (iv6 = 0 → (post hv5 (-2)))))))))))))))
set_option maxRecDepth 100000 in
theorem c_X11_best (G : GG) (h : AH) (a0 : Nat) (x1 : Int32) (x2 : Int32) (post : AH → Int32 → Prop) (hw : wp_X11_best h a0 x1 x2 post) : MC G yX11_best cX11_best 3 (some .int) 6 158 h [.ref (G.1 + a0), .int x1, .int x2] (pI post) := by
  refine MC.of (lv := [(0, .ref (G.1 + a0)), (1, .int x1), (2, .int x2)]) (by decide) (Nat.le_of_ble_eq_true rfl) rfl fun p l e R s m args below meth c C hr hnm => ?_
  unfold wp_X11_best at hw
  refine r_iload_n C dX11_best_0 1 rfl ?_
  refine r_if_lt C dX11_best_1 30 (by decide) (fun hc => ?_) (fun hc => ?_)
  · replace hw := hw.1 hc
    refine r_bipush (v := (-2)) C dX11_best_30 (by decide) ?_
    exact r_iret C hr dX11_best_32 hw
  · replace hw := hw.2 hc
    refine r_iload_n C dX11_best_4 1 rfl ?_
    refine r_bipush (v := 60) C dX11_best_5 (by decide) ?_
    refine r_icmp_gt C dX11_best_7 30 (by decide) (fun hc => ?_) (fun hc => ?_)
    · replace hw := hw.1 hc
      refine r_bipush (v := (-2)) C dX11_best_30 (by decide) ?_
      exact r_iret C hr dX11_best_32 hw
    · replace hw := hw.2 hc
      refine r_iload_n C dX11_best_10 2 rfl ?_
      refine r_callS C (As := [.int x2]) (rest := []) (c_X11_isHour G h x2 _ hw) yl_X11_isHour (gm4 (List.mem_of_getElem? (i := 90) rfl) rfl) (gm4 (List.mem_of_getElem? (i := 91) rfl) rfl) (by decide) rfl (Nat.le_of_ble_eq_true rfl) dX11_best_11 rfl (kI fun hv1 iv2 hw => ?_)
      refine r_if_eq C dX11_best_14 30 (by decide) (fun hc => ?_) (fun hc => ?_)
      · replace hw := hw.1 hc
        refine r_bipush (v := (-2)) C dX11_best_30 (by decide) ?_
        exact r_iret C hr dX11_best_32 hw
      · replace hw := hw.2 hc
        refine r_aload_n C dX11_best_17 0 rfl ?_
        have hob := hw.1
        obtain ⟨rv3, hp, hw⟩ := hw.2
        refine r_getP C fl_RX11_30_10 hob hp (fun _ _ _ => rfl) dX11_best_18 ?_
        have hob := hw.1
        obtain ⟨rv4, hp, hw⟩ := hw.2
        refine r_getP C fl_RX11_40_5 hob hp (fun _ _ _ => rfl) dX11_best_21 ?_
        have hob := hw.1
        replace hw := hw.2
        refine r_callV C (As := []) (rest := []) (c_X1_isSmall G hv1 rv4  _ hw) yl_X1_isSmall (gm5 (List.mem_of_getElem? (i := 80) rfl) rfl) (gm5 (List.mem_of_getElem? (i := 81) rfl) rfl) (ci := 1) rfl (by decide) (gm5 (List.mem_of_getElem? (i := 82) rfl) rfl) hob (by decide) rfl (Nat.le_of_ble_eq_true rfl) dX11_best_24 rfl (kI fun hv5 iv6 hw => ?_)
        refine r_if_ne C dX11_best_27 33 (by decide) (fun hc => ?_) (fun hc => ?_)
        · replace hw := hw.1 hc
          refine r_aload_n C dX11_best_33 0 rfl ?_
          have hob := hw.1
          obtain ⟨rv7, hp, hw⟩ := hw.2
          refine r_getP C fl_RX11_67_10 hob hp (fun _ _ _ => rfl) dX11_best_34 ?_
          refine r_aload_n C dX11_best_37 0 rfl ?_
          have hob := hw.1
          obtain ⟨rv8, hp, hw⟩ := hw.2
          refine r_getP C fl_RX11_30_10 hob hp (fun _ _ _ => rfl) dX11_best_38 ?_
          have hob := hw.1
          obtain ⟨rv9, hp, hw⟩ := hw.2
          refine r_getP C fl_RX11_40_5 hob hp (fun _ _ _ => rfl) dX11_best_41 ?_
          refine r_aload_n C dX11_best_44 0 rfl ?_
          have hob := hw.1
          obtain ⟨rv10, hp, hw⟩ := hw.2
          refine r_getP C fl_RX11_30_10 hob hp (fun _ _ _ => rfl) dX11_best_45 ?_
          have hob := hw.1
          obtain ⟨rv11, hp, hw⟩ := hw.2
          refine r_getP C fl_RX11_132_5 hob hp (fun _ _ _ => rfl) dX11_best_48 ?_
          refine r_iload_n C dX11_best_51 1 rfl ?_
          refine r_iload_n C dX11_best_52 2 rfl ?_
          have hob := hw.1
          replace hw := hw.2
          refine r_callV C (As := [.ref (G.1 + rv9), .ref (G.1 + rv11), .int x1, .int x2]) (rest := []) (c_X6_mostMet G hv5 rv7 rv9 rv11 x1 x2 _ hw) yl_X6_mostMet (gm5 (List.mem_of_getElem? (i := 212) rfl) rfl) (gm5 (List.mem_of_getElem? (i := 213) rfl) rfl) (ci := 6) rfl (by decide) (gm5 (List.mem_of_getElem? (i := 214) rfl) rfl) hob (by decide) rfl (Nat.le_of_ble_eq_true rfl) dX11_best_53 rfl (kI fun hv12 iv13 hw => ?_)
          exact r_iret C hr dX11_best_56 hw
        · replace hw := hw.2 hc
          refine r_bipush (v := (-2)) C dX11_best_30 (by decide) ?_
          exact r_iret C hr dX11_best_32 hw
theorem dX11_found_0 : decode cX11_found 0 = .ok (.iload_n 1, 1) := by decide +kernel
theorem dX11_found_1 : decode cX11_found 1 = .ok (.ifCond .lt 14, 3) := by decide +kernel
theorem dX11_found_4 : decode cX11_found 4 = .ok (.iload_n 1, 1) := by decide +kernel
theorem dX11_found_5 : decode cX11_found 5 = .ok (.aload_n 0, 1) := by decide +kernel
theorem dX11_found_6 : decode cX11_found 6 = .ok (.getfield 67, 3) := by decide +kernel
theorem dX11_found_9 : decode cX11_found 9 = .ok (.getfield 281, 3) := by decide +kernel
theorem dX11_found_12 : decode cX11_found 12 = .ok (.if_icmp .lt 5, 3) := by decide +kernel
theorem dX11_found_15 : decode cX11_found 15 = .ok (.iconst (-1), 1) := by decide +kernel
theorem dX11_found_16 : decode cX11_found 16 = .ok (.ireturn, 1) := by decide +kernel
theorem dX11_found_17 : decode cX11_found 17 = .ok (.aload_n 0, 1) := by decide +kernel
theorem dX11_found_18 : decode cX11_found 18 = .ok (.getfield 67, 3) := by decide +kernel
theorem dX11_found_21 : decode cX11_found 21 = .ok (.getfield 282, 3) := by decide +kernel
theorem dX11_found_24 : decode cX11_found 24 = .ok (.iload_n 1, 1) := by decide +kernel
theorem dX11_found_25 : decode cX11_found 25 = .ok (.iaload, 1) := by decide +kernel
theorem dX11_found_26 : decode cX11_found 26 = .ok (.ireturn, 1) := by decide +kernel
def wp_X11_found (h : AH) (a0 : Nat) (x1 : Int32) (post : AH → Int32 → Prop) : Prop := (x1 < 0 → (post h (-1))) ∧ (¬ x1 < 0 → ((ob h a0 10) ∧ (∃ rv1, aP h a0 14 = some rv1 ∧ ((ob h rv1 6) ∧ ((x1 < (aI h rv1 9) → ((ob h a0 10) ∧ (∃ rv2, aP h a0 14 = some rv2 ∧ ((ob h rv2 6) ∧ (∃ rv3, aP h rv2 8 = some rv3 ∧ ((ob h rv3 13) ∧ ((vp_in x1 (aL h rv3)) ∧ (post h (aI h rv3 x1.toNatClampNeg))))))))) ∧ (¬ x1 < (aI h rv1 9) → (post h (-1))))))))
set_option maxRecDepth 100000 in
theorem c_X11_found (G : GG) (h : AH) (a0 : Nat) (x1 : Int32) (post : AH → Int32 → Prop) (hw : wp_X11_found h a0 x1 post) : MC G yX11_found cX11_found 2 (some .int) 0 0 h [.ref (G.1 + a0), .int x1] (pI post) := by
  refine MC.of (lv := [(0, .ref (G.1 + a0)), (1, .int x1)]) (by decide) (Nat.le_of_ble_eq_true rfl) rfl fun p l e R s m args below meth c C hr hnm => ?_
  unfold wp_X11_found at hw
  refine r_iload_n C dX11_found_0 1 rfl ?_
  refine r_if_lt C dX11_found_1 15 (by decide) (fun hc => ?_) (fun hc => ?_)
  · replace hw := hw.1 hc
    refine r_iconst (v := (-1)) C dX11_found_15 (by decide) ?_
    exact r_iret C hr dX11_found_16 hw
  · replace hw := hw.2 hc
    refine r_iload_n C dX11_found_4 1 rfl ?_
    refine r_aload_n C dX11_found_5 0 rfl ?_
    have hob := hw.1
    obtain ⟨rv1, hp, hw⟩ := hw.2
    refine r_getP C fl_RX11_67_10 hob hp (fun _ _ _ => rfl) dX11_found_6 ?_
    refine r_getI C fl_RX11_281_6 hw.1 (fun _ _ _ => rfl) dX11_found_9 ?_
    replace hw := hw.2
    refine r_icmp_lt C dX11_found_12 17 (by decide) (fun hc => ?_) (fun hc => ?_)
    · replace hw := hw.1 hc
      refine r_aload_n C dX11_found_17 0 rfl ?_
      have hob := hw.1
      obtain ⟨rv2, hp, hw⟩ := hw.2
      refine r_getP C fl_RX11_67_10 hob hp (fun _ _ _ => rfl) dX11_found_18 ?_
      have hob := hw.1
      obtain ⟨rv3, hp, hw⟩ := hw.2
      refine r_getP C fl_RX11_282_6 hob hp (fun _ _ _ => rfl) dX11_found_21 ?_
      refine r_iload_n C dX11_found_24 1 rfl ?_
      refine r_iaload C hw.1 hw.2.1 dX11_found_25 ?_
      replace hw := hw.2.2
      exact r_iret C hr dX11_found_26 hw
    · replace hw := hw.2 hc
      refine r_iconst (v := (-1)) C dX11_found_15 (by decide) ?_
      exact r_iret C hr dX11_found_16 hw
theorem dX11_all_0 : decode cX11_all 0 = .ok (.aload_n 0, 1) := by decide +kernel
theorem dX11_all_1 : decode cX11_all 1 = .ok (.getfield 30, 3) := by decide +kernel
theorem dX11_all_4 : decode cX11_all 4 = .ok (.getfield 40, 3) := by decide +kernel
theorem dX11_all_7 : decode cX11_all 7 = .ok (.invokevirtual 259, 3) := by decide +kernel
theorem dX11_all_10 : decode cX11_all 10 = .ok (.ifCond .ne 6, 3) := by decide +kernel
theorem dX11_all_13 : decode cX11_all 13 = .ok (.bipush (-2), 2) := by decide +kernel
theorem dX11_all_15 : decode cX11_all 15 = .ok (.ireturn, 1) := by decide +kernel
theorem dX11_all_16 : decode cX11_all 16 = .ok (.aload_n 0, 1) := by decide +kernel
theorem dX11_all_17 : decode cX11_all 17 = .ok (.getfield 67, 3) := by decide +kernel
theorem dX11_all_20 : decode cX11_all 20 = .ok (.aload_n 0, 1) := by decide +kernel
theorem dX11_all_21 : decode cX11_all 21 = .ok (.getfield 30, 3) := by decide +kernel
theorem dX11_all_24 : decode cX11_all 24 = .ok (.getfield 40, 3) := by decide +kernel
theorem dX11_all_27 : decode cX11_all 27 = .ok (.invokevirtual 285, 3) := by decide +kernel
theorem dX11_all_30 : decode cX11_all 30 = .ok (.ireturn, 1) := by decide +kernel
def wp_X11_all (h : AH) (a0 : Nat) (post : AH → Int32 → Prop) : Prop := (ob h a0 10) ∧ (∃ rv1, aP h a0 5 = some rv1 ∧ ((ob h rv1 5) ∧ (∃ rv2, aP h rv1 0 = some rv2 ∧ ((ob h rv2 1) ∧ wp_X1_isSmall h rv2  (fun hv3 iv4 => (¬ iv4 = 0 → ((ob hv3 a0 10) ∧ (∃ rv5, aP hv3 a0 14 = some rv5 ∧ ((ob hv3 a0 10) ∧ (∃ rv6, aP hv3 a0 5 = some rv6 ∧ ((ob hv3 rv6 5) ∧ (∃ rv7, aP hv3 rv6 0 = some rv7 ∧ ((ob hv3 rv5 6) ∧ wp_X6_mostMetAnywhere hv3 rv5 rv7 (fun hv8 iv9 => post hv8 iv9))))))))) ∧ (iv4 = 0 → (post hv3 (-2))))))))
set_option maxRecDepth 100000 in
theorem c_X11_all (G : GG) (h : AH) (a0 : Nat) (post : AH → Int32 → Prop) (hw : wp_X11_all h a0 post) : MC G yX11_all cX11_all 1 (some .int) 6 150 h [.ref (G.1 + a0)] (pI post) := by
  refine MC.of (lv := [(0, .ref (G.1 + a0))]) (by decide) (Nat.le_of_ble_eq_true rfl) rfl fun p l e R s m args below meth c C hr hnm => ?_
  unfold wp_X11_all at hw
  refine r_aload_n C dX11_all_0 0 rfl ?_
  have hob := hw.1
  obtain ⟨rv1, hp, hw⟩ := hw.2
  refine r_getP C fl_RX11_30_10 hob hp (fun _ _ _ => rfl) dX11_all_1 ?_
  have hob := hw.1
  obtain ⟨rv2, hp, hw⟩ := hw.2
  refine r_getP C fl_RX11_40_5 hob hp (fun _ _ _ => rfl) dX11_all_4 ?_
  have hob := hw.1
  replace hw := hw.2
  refine r_callV C (As := []) (rest := []) (c_X1_isSmall G h rv2  _ hw) yl_X1_isSmall (gm5 (List.mem_of_getElem? (i := 80) rfl) rfl) (gm5 (List.mem_of_getElem? (i := 81) rfl) rfl) (ci := 1) rfl (by decide) (gm5 (List.mem_of_getElem? (i := 82) rfl) rfl) hob (by decide) rfl (Nat.le_of_ble_eq_true rfl) dX11_all_7 rfl (kI fun hv3 iv4 hw => ?_)
  refine r_if_ne C dX11_all_10 16 (by decide) (fun hc => ?_) (fun hc => ?_)
  · replace hw := hw.1 hc
    refine r_aload_n C dX11_all_16 0 rfl ?_
    have hob := hw.1
    obtain ⟨rv5, hp, hw⟩ := hw.2
    refine r_getP C fl_RX11_67_10 hob hp (fun _ _ _ => rfl) dX11_all_17 ?_
    refine r_aload_n C dX11_all_20 0 rfl ?_
    have hob := hw.1
    obtain ⟨rv6, hp, hw⟩ := hw.2
    refine r_getP C fl_RX11_30_10 hob hp (fun _ _ _ => rfl) dX11_all_21 ?_
    have hob := hw.1
    obtain ⟨rv7, hp, hw⟩ := hw.2
    refine r_getP C fl_RX11_40_5 hob hp (fun _ _ _ => rfl) dX11_all_24 ?_
    have hob := hw.1
    replace hw := hw.2
    refine r_callV C (As := [.ref (G.1 + rv7)]) (rest := []) (c_X6_mostMetAnywhere G hv3 rv5 rv7 _ hw) yl_X6_mostMetAnywhere (gm6 (List.mem_of_getElem? (i := 9) rfl) rfl) (gm6 (List.mem_of_getElem? (i := 10) rfl) rfl) (ci := 6) rfl (by decide) (gm6 (List.mem_of_getElem? (i := 11) rfl) rfl) hob (by decide) rfl (Nat.le_of_ble_eq_true rfl) dX11_all_27 rfl (kI fun hv8 iv9 hw => ?_)
    exact r_iret C hr dX11_all_30 hw
  · replace hw := hw.2 hc
    refine r_bipush (v := (-2)) C dX11_all_13 (by decide) ?_
    exact r_iret C hr dX11_all_15 hw
theorem dX11_allAt_0 : decode cX11_allAt 0 = .ok (.iload_n 1, 1) := by decide +kernel
theorem dX11_allAt_1 : decode cX11_allAt 1 = .ok (.ifCond .lt 14, 3) := by decide +kernel
theorem dX11_allAt_4 : decode cX11_allAt 4 = .ok (.iload_n 1, 1) := by decide +kernel
theorem dX11_allAt_5 : decode cX11_allAt 5 = .ok (.aload_n 0, 1) := by decide +kernel
theorem dX11_allAt_6 : decode cX11_allAt 6 = .ok (.getfield 67, 3) := by decide +kernel
theorem dX11_allAt_9 : decode cX11_allAt 9 = .ok (.getfield 289, 3) := by decide +kernel
theorem dX11_allAt_12 : decode cX11_allAt 12 = .ok (.if_icmp .lt 5, 3) := by decide +kernel
theorem dX11_allAt_15 : decode cX11_allAt 15 = .ok (.iconst (-1), 1) := by decide +kernel
theorem dX11_allAt_16 : decode cX11_allAt 16 = .ok (.ireturn, 1) := by decide +kernel
theorem dX11_allAt_17 : decode cX11_allAt 17 = .ok (.aload_n 0, 1) := by decide +kernel
theorem dX11_allAt_18 : decode cX11_allAt 18 = .ok (.getfield 67, 3) := by decide +kernel
theorem dX11_allAt_21 : decode cX11_allAt 21 = .ok (.getfield 292, 3) := by decide +kernel
theorem dX11_allAt_24 : decode cX11_allAt 24 = .ok (.iload_n 1, 1) := by decide +kernel
theorem dX11_allAt_25 : decode cX11_allAt 25 = .ok (.iaload, 1) := by decide +kernel
theorem dX11_allAt_26 : decode cX11_allAt 26 = .ok (.iload_n 2, 1) := by decide +kernel
theorem dX11_allAt_27 : decode cX11_allAt 27 = .ok (.invokestatic 250, 3) := by decide +kernel
theorem dX11_allAt_30 : decode cX11_allAt 30 = .ok (.ireturn, 1) := by decide +kernel
def wp_X11_allAt (h : AH) (a0 : Nat) (x1 : Int32) (x2 : Int32) (post : AH → Int32 → Prop) : Prop := (x1 < 0 → (post h (-1))) ∧ (¬ x1 < 0 → ((ob h a0 10) ∧ (∃ rv1, aP h a0 14 = some rv1 ∧ ((ob h rv1 6) ∧ ((x1 < (aI h rv1 13) → ((ob h a0 10) ∧ (∃ rv2, aP h a0 14 = some rv2 ∧ ((ob h rv2 6) ∧ (∃ rv3, aP h rv2 10 = some rv3 ∧ ((ob h rv3 13) ∧ ((vp_in x1 (aL h rv3)) ∧ (wp_X11_partOfSpot h (aI h rv3 x1.toNatClampNeg) x2 (fun hv4 iv5 => post hv4 iv5))))))))) ∧ (¬ x1 < (aI h rv1 13) → (post h (-1))))))))
set_option maxRecDepth 100000 in
theorem c_X11_allAt (G : GG) (h : AH) (a0 : Nat) (x1 : Int32) (x2 : Int32) (post : AH → Int32 → Prop) (hw : wp_X11_allAt h a0 x1 x2 post) : MC G yX11_allAt cX11_allAt 3 (some .int) 1 21 h [.ref (G.1 + a0), .int x1, .int x2] (pI post) := by
  refine MC.of (lv := [(0, .ref (G.1 + a0)), (1, .int x1), (2, .int x2)]) (by decide) (Nat.le_of_ble_eq_true rfl) rfl fun p l e R s m args below meth c C hr hnm => ?_
  unfold wp_X11_allAt at hw
  refine r_iload_n C dX11_allAt_0 1 rfl ?_
  refine r_if_lt C dX11_allAt_1 15 (by decide) (fun hc => ?_) (fun hc => ?_)
  · replace hw := hw.1 hc
    refine r_iconst (v := (-1)) C dX11_allAt_15 (by decide) ?_
    exact r_iret C hr dX11_allAt_16 hw
  · replace hw := hw.2 hc
    refine r_iload_n C dX11_allAt_4 1 rfl ?_
    refine r_aload_n C dX11_allAt_5 0 rfl ?_
    have hob := hw.1
    obtain ⟨rv1, hp, hw⟩ := hw.2
    refine r_getP C fl_RX11_67_10 hob hp (fun _ _ _ => rfl) dX11_allAt_6 ?_
    refine r_getI C fl_RX11_289_6 hw.1 (fun _ _ _ => rfl) dX11_allAt_9 ?_
    replace hw := hw.2
    refine r_icmp_lt C dX11_allAt_12 17 (by decide) (fun hc => ?_) (fun hc => ?_)
    · replace hw := hw.1 hc
      refine r_aload_n C dX11_allAt_17 0 rfl ?_
      have hob := hw.1
      obtain ⟨rv2, hp, hw⟩ := hw.2
      refine r_getP C fl_RX11_67_10 hob hp (fun _ _ _ => rfl) dX11_allAt_18 ?_
      have hob := hw.1
      obtain ⟨rv3, hp, hw⟩ := hw.2
      refine r_getP C fl_RX11_292_6 hob hp (fun _ _ _ => rfl) dX11_allAt_21 ?_
      refine r_iload_n C dX11_allAt_24 1 rfl ?_
      refine r_iaload C hw.1 hw.2.1 dX11_allAt_25 ?_
      replace hw := hw.2.2
      refine r_iload_n C dX11_allAt_26 2 rfl ?_
      refine r_callS C (As := [.int (aI h rv3 x1.toNatClampNeg), .int x2]) (rest := []) (c_X11_partOfSpot G h (aI h rv3 x1.toNatClampNeg) x2 _ hw) yl_X11_partOfSpot (gm5 (List.mem_of_getElem? (i := 60) rfl) rfl) (gm5 (List.mem_of_getElem? (i := 61) rfl) rfl) (by decide) rfl (Nat.le_of_ble_eq_true rfl) dX11_allAt_27 rfl (kI fun hv4 iv5 hw => ?_)
      exact r_iret C hr dX11_allAt_30 hw
    · replace hw := hw.2 hc
      refine r_iconst (v := (-1)) C dX11_allAt_15 (by decide) ?_
      exact r_iret C hr dX11_allAt_16 hw
theorem dX11_left_0 : decode cX11_left 0 = .ok (.aload_n 0, 1) := by decide +kernel
theorem dX11_left_1 : decode cX11_left 1 = .ok (.getfield 67, 3) := by decide +kernel
theorem dX11_left_4 : decode cX11_left 4 = .ok (.getfield 295, 3) := by decide +kernel
theorem dX11_left_7 : decode cX11_left 7 = .ok (.ireturn, 1) := by decide +kernel
def wp_X11_left (h : AH) (a0 : Nat) (post : AH → Int32 → Prop) : Prop := (ob h a0 10) ∧ (∃ rv1, aP h a0 14 = some rv1 ∧ ((ob h rv1 6) ∧ (post h (aI h rv1 14))))
set_option maxRecDepth 100000 in
theorem c_X11_left (G : GG) (h : AH) (a0 : Nat) (post : AH → Int32 → Prop) (hw : wp_X11_left h a0 post) : MC G yX11_left cX11_left 1 (some .int) 0 0 h [.ref (G.1 + a0)] (pI post) := by
  refine MC.of (lv := [(0, .ref (G.1 + a0))]) (by decide) (Nat.le_of_ble_eq_true rfl) rfl fun p l e R s m args below meth c C hr hnm => ?_
  unfold wp_X11_left at hw
  refine r_aload_n C dX11_left_0 0 rfl ?_
  have hob := hw.1
  obtain ⟨rv1, hp, hw⟩ := hw.2
  refine r_getP C fl_RX11_67_10 hob hp (fun _ _ _ => rfl) dX11_left_1 ?_
  refine r_getI C fl_RX11_295_6 hw.1 (fun _ _ _ => rfl) dX11_left_4 ?_
  replace hw := hw.2
  exact r_iret C hr dX11_left_7 hw
