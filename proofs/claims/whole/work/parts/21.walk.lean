theorem fl_RX0_126_7 : FL RX0 126 7 1 := ⟨RX8, RX8, TX8, 3, ci7, by decide, (gm2 (List.mem_of_getElem? (i := 120) rfl) rfl), Or.inl rfl⟩
theorem ff_RX4_9_4 : FF RX4 9 4 1 := ⟨RX4, RX4, TX4, 6, ci4, by decide, (gm1 (List.mem_of_getElem? (i := 109) rfl) rfl), Or.inl rfl, rfl, rfl⟩
theorem ff_RX4_15_4 : FF RX4 15 4 2 := ⟨RX4, RX4, TX4, 6, ci4, by decide, (gm1 (List.mem_of_getElem? (i := 111) rfl) rfl), Or.inl rfl, rfl, rfl⟩
theorem ff_RX4_18_4 : FF RX4 18 4 3 := ⟨RX4, RX4, TX4, 6, ci4, by decide, (gm1 (List.mem_of_getElem? (i := 113) rfl) rfl), Or.inl rfl, rfl, rfl⟩
theorem ff_RX4_21_4 : FF RX4 21 4 4 := ⟨RX4, RX4, TX4, 6, ci4, by decide, (gm1 (List.mem_of_getElem? (i := 115) rfl) rfl), Or.inl rfl, rfl, rfl⟩
theorem ff_RX4_24_4 : FF RX4 24 4 5 := ⟨RX4, RX4, TX4, 6, ci4, by decide, (gm1 (List.mem_of_getElem? (i := 116) rfl) rfl), Or.inl rfl, rfl, rfl⟩
theorem ff_RX10_9_9 : FF RX10 9 9 1 := ⟨RX10, RX10, TX10, 5, ci9, by decide, (gm1 (List.mem_of_getElem? (i := 146) rfl) rfl), Or.inl rfl, rfl, rfl⟩
theorem ff_RX10_15_9 : FF RX10 15 9 2 := ⟨RX10, RX10, TX10, 5, ci9, by decide, (gm1 (List.mem_of_getElem? (i := 147) rfl) rfl), Or.inl rfl, rfl, rfl⟩
theorem ff_RX10_18_9 : FF RX10 18 9 3 := ⟨RX10, RX10, TX10, 5, ci9, by decide, (gm1 (List.mem_of_getElem? (i := 148) rfl) rfl), Or.inl rfl, rfl, rfl⟩
theorem ff_RX10_21_9 : FF RX10 21 9 4 := ⟨RX10, RX10, TX10, 5, ci9, by decide, (gm1 (List.mem_of_getElem? (i := 149) rfl) rfl), Or.inl rfl, rfl, rfl⟩
theorem ff_RX1_9_1 : FF RX1 9 1 2 := ⟨RX1, RX1, TX1, 16, ci1, by decide, (gm1 (List.mem_of_getElem? (i := 170) rfl) rfl), Or.inl rfl, rfl, rfl⟩
theorem ff_RX1_15_1 : FF RX1 15 1 3 := ⟨RX1, RX1, TX1, 16, ci1, by decide, (gm1 (List.mem_of_getElem? (i := 172) rfl) rfl), Or.inl rfl, rfl, rfl⟩
theorem ff_RX1_19_1 : FF RX1 19 1 4 := ⟨RX1, RX1, TX1, 16, ci1, by decide, (gm1 (List.mem_of_getElem? (i := 173) rfl) rfl), Or.inl rfl, rfl, rfl⟩
theorem ff_RX1_22_1 : FF RX1 22 1 6 := ⟨RX1, RX1, TX1, 16, ci1, by decide, (gm1 (List.mem_of_getElem? (i := 182) rfl) rfl), Or.inl rfl, rfl, rfl⟩
theorem ff_RX1_25_1 : FF RX1 25 1 7 := ⟨RX1, RX1, TX1, 16, ci1, by decide, (gm1 (List.mem_of_getElem? (i := 184) rfl) rfl), Or.inl rfl, rfl, rfl⟩
theorem ff_RX1_28_1 : FF RX1 28 1 8 := ⟨RX1, RX1, TX1, 16, ci1, by decide, (gm1 (List.mem_of_getElem? (i := 187) rfl) rfl), Or.inl rfl, rfl, rfl⟩
theorem ff_RX1_31_1 : FF RX1 31 1 9 := ⟨RX1, RX1, TX1, 16, ci1, by decide, (gm1 (List.mem_of_getElem? (i := 190) rfl) rfl), Or.inl rfl, rfl, rfl⟩
theorem ff_RX1_34_1 : FF RX1 34 1 10 := ⟨RX1, RX1, TX1, 16, ci1, by decide, (gm1 (List.mem_of_getElem? (i := 193) rfl) rfl), Or.inl rfl, rfl, rfl⟩
theorem ff_RX1_37_1 : FF RX1 37 1 12 := ⟨RX1, RX1, TX1, 16, ci1, by decide, (gm1 (List.mem_of_getElem? (i := 199) rfl) rfl), Or.inl rfl, rfl, rfl⟩
theorem nl_RX1_40 : NL RX1 40 4 := ⟨RX4, TX4, 6, ci4, (gm1 (List.mem_of_getElem? (i := 98) rfl) rfl), (gm1 (List.mem_of_getElem? (i := 99) rfl) rfl), (gm1 (List.mem_of_getElem? (i := 9) rfl) rfl), by decide⟩
theorem yl_X4_init : YL yX4_init cX4_init 1 none 0 := ⟨(gm1 (List.mem_of_getElem? (i := 102) rfl) rfl), (gm1 (List.mem_of_getElem? (i := 9) rfl) rfl), by decide, by decide, by decide +kernel⟩
theorem ff_RX1_43_1 : FF RX1 43 1 14 := ⟨RX1, RX1, TX1, 16, ci1, by decide, (gm1 (List.mem_of_getElem? (i := 204) rfl) rfl), Or.inl rfl, rfl, rfl⟩
theorem nl_RX1_47 : NL RX1 47 9 := ⟨RX10, TX10, 5, ci9, (gm1 (List.mem_of_getElem? (i := 135) rfl) rfl), (gm1 (List.mem_of_getElem? (i := 136) rfl) rfl), (gm1 (List.mem_of_getElem? (i := 10) rfl) rfl), by decide⟩
theorem yl_X10_init : YL yX10_init cX10_init 1 none 0 := ⟨(gm1 (List.mem_of_getElem? (i := 139) rfl) rfl), (gm1 (List.mem_of_getElem? (i := 10) rfl) rfl), by decide, by decide, by decide +kernel⟩
theorem ff_RX1_50_1 : FF RX1 50 1 15 := ⟨RX1, RX1, TX1, 16, ci1, by decide, (gm1 (List.mem_of_getElem? (i := 209) rfl) rfl), Or.inl rfl, rfl, rfl⟩
theorem yl_J7_fill_53178 : YL yJ7_fill_53178 cJ7_fill_53178 4 none 2 := ⟨(gm1 (List.mem_of_getElem? (i := 163) rfl) rfl), (gm1 (List.mem_of_getElem? (i := 11) rfl) rfl), by decide, by decide, by decide +kernel⟩
theorem fp_RX4_27_4 : FP RX4 27 4 0 := ⟨RX4, RX4, TX4, 6, ci4, by decide, (gm1 (List.mem_of_getElem? (i := 104) rfl) rfl), Or.inl rfl, rfl⟩
theorem fl_RX4_24_4 : FL RX4 24 4 5 := ⟨RX4, RX4, TX4, 6, ci4, by decide, (gm1 (List.mem_of_getElem? (i := 116) rfl) rfl), Or.inl rfl⟩
theorem fp_RX1_60_1 : FP RX1 60 1 0 := ⟨RX1, RX1, TX1, 16, ci1, by decide, (gm1 (List.mem_of_getElem? (i := 164) rfl) rfl), Or.inl rfl, rfl⟩
theorem fp_RX1_64_1 : FP RX1 64 1 1 := ⟨RX1, RX1, TX1, 16, ci1, by decide, (gm1 (List.mem_of_getElem? (i := 167) rfl) rfl), Or.inl rfl, rfl⟩
theorem fp_RX1_70_1 : FP RX1 70 1 5 := ⟨RX1, RX1, TX1, 16, ci1, by decide, (gm1 (List.mem_of_getElem? (i := 178) rfl) rfl), Or.inl rfl, rfl⟩
theorem fp_RX1_73_1 : FP RX1 73 1 11 := ⟨RX1, RX1, TX1, 16, ci1, by decide, (gm1 (List.mem_of_getElem? (i := 196) rfl) rfl), Or.inl rfl, rfl⟩
theorem fp_RX1_76_1 : FP RX1 76 1 13 := ⟨RX1, RX1, TX1, 16, ci1, by decide, (gm1 (List.mem_of_getElem? (i := 201) rfl) rfl), Or.inl rfl, rfl⟩
theorem fl_RX1_43_1 : FL RX1 43 1 14 := ⟨RX1, RX1, TX1, 16, ci1, by decide, (gm1 (List.mem_of_getElem? (i := 204) rfl) rfl), Or.inl rfl⟩
theorem yl_X4_empty : YL yX4_empty cX4_empty 1 none 0 := ⟨(gm3 (List.mem_of_getElem? (i := 134) rfl) rfl), (gm1 (List.mem_of_getElem? (i := 9) rfl) rfl), by decide, by decide, by decide +kernel⟩
theorem fl_RX1_50_1 : FL RX1 50 1 15 := ⟨RX1, RX1, TX1, 16, ci1, by decide, (gm1 (List.mem_of_getElem? (i := 209) rfl) rfl), Or.inl rfl⟩
theorem fp_RX1_83_9 : FP RX1 83 9 0 := ⟨RX10, RX10, TX10, 5, ci9, by decide, (gm1 (List.mem_of_getElem? (i := 142) rfl) rfl), Or.inl rfl, rfl⟩
theorem fl_RX4_21_4 : FL RX4 21 4 4 := ⟨RX4, RX4, TX4, 6, ci4, by decide, (gm1 (List.mem_of_getElem? (i := 115) rfl) rfl), Or.inl rfl⟩
theorem fp_RX10_24_9 : FP RX10 24 9 0 := ⟨RX10, RX10, TX10, 5, ci9, by decide, (gm1 (List.mem_of_getElem? (i := 141) rfl) rfl), Or.inl rfl, rfl⟩
theorem fl_RX10_21_9 : FL RX10 21 9 4 := ⟨RX10, RX10, TX10, 5, ci9, by decide, (gm1 (List.mem_of_getElem? (i := 149) rfl) rfl), Or.inl rfl⟩
theorem fl_RX1_9_1 : FL RX1 9 1 2 := ⟨RX1, RX1, TX1, 16, ci1, by decide, (gm1 (List.mem_of_getElem? (i := 170) rfl) rfl), Or.inl rfl⟩
theorem fl_RX1_70_1 : FL RX1 70 1 5 := ⟨RX1, RX1, TX1, 16, ci1, by decide, (gm1 (List.mem_of_getElem? (i := 178) rfl) rfl), Or.inl rfl⟩
theorem fl_RX1_22_1 : FL RX1 22 1 6 := ⟨RX1, RX1, TX1, 16, ci1, by decide, (gm1 (List.mem_of_getElem? (i := 182) rfl) rfl), Or.inl rfl⟩
theorem fl_RX1_34_1 : FL RX1 34 1 10 := ⟨RX1, RX1, TX1, 16, ci1, by decide, (gm1 (List.mem_of_getElem? (i := 193) rfl) rfl), Or.inl rfl⟩
theorem fl_RX1_76_1 : FL RX1 76 1 13 := ⟨RX1, RX1, TX1, 16, ci1, by decide, (gm1 (List.mem_of_getElem? (i := 201) rfl) rfl), Or.inl rfl⟩
theorem yl_X4_copy : YL yX4_copy cX4_copy 2 none 1 := ⟨(gm6 (List.mem_of_getElem? (i := 82) rfl) rfl), (gm1 (List.mem_of_getElem? (i := 9) rfl) rfl), by decide, by decide, by decide +kernel⟩
theorem yl_X10_copy : YL yX10_copy cX10_copy 2 none 1 := ⟨(gm6 (List.mem_of_getElem? (i := 87) rfl) rfl), (gm1 (List.mem_of_getElem? (i := 10) rfl) rfl), by decide, by decide, by decide +kernel⟩
theorem yl_X4_hangingWith : YL yX4_hangingWith cX4_hangingWith 8 (some .int) 2 := ⟨(gm6 (List.mem_of_getElem? (i := 45) rfl) rfl), (gm1 (List.mem_of_getElem? (i := 9) rfl) rfl), by decide, by decide, by decide +kernel⟩
theorem fl_RX1_144_4 : FL RX1 144 4 5 := ⟨RX4, RX4, TX4, 6, ci4, by decide, (gm1 (List.mem_of_getElem? (i := 118) rfl) rfl), Or.inl rfl⟩
theorem fl_RX1_147_4 : FL RX1 147 4 0 := ⟨RX4, RX4, TX4, 6, ci4, by decide, (gm1 (List.mem_of_getElem? (i := 107) rfl) rfl), Or.inl rfl⟩
theorem yl_X4_holdsOf : YL yX4_holdsOf cX4_holdsOf 4 (some .int) 1 := ⟨(gm6 (List.mem_of_getElem? (i := 57) rfl) rfl), (gm1 (List.mem_of_getElem? (i := 9) rfl) rfl), by decide, by decide, by decide +kernel⟩
theorem yl_J6_bitCount_0f7a4 : YL yJ6_bitCount_0f7a4 cJ6_bitCount_0f7a4 1 (some .int) 1 := ⟨(gm6 (List.mem_of_getElem? (i := 60) rfl) rfl), (gm1 (List.mem_of_getElem? (i := 25) rfl) rfl), by decide, by decide, by decide +kernel⟩
theorem yl_X1_isDriven : YL yX1_isDriven cX1_isDriven 8 (some .boolean) 3 := ⟨(gm6 (List.mem_of_getElem? (i := 41) rfl) rfl), (gm1 (List.mem_of_getElem? (i := 8) rfl) rfl), by decide, by decide, by decide +kernel⟩
theorem fp_RX7_15_2 : FP RX7 15 2 1 := ⟨RX2, RX7, TX2, 14, ci2, by decide, (gm2 (List.mem_of_getElem? (i := 12) rfl) rfl), Or.inl rfl, rfl⟩
theorem fp_RX7_37_2 : FP RX7 37 2 2 := ⟨RX2, RX7, TX2, 14, ci2, by decide, (gm2 (List.mem_of_getElem? (i := 13) rfl) rfl), Or.inl rfl, rfl⟩
theorem fp_RX7_40_2 : FP RX7 40 2 3 := ⟨RX2, RX7, TX2, 14, ci2, by decide, (gm2 (List.mem_of_getElem? (i := 14) rfl) rfl), Or.inl rfl, rfl⟩
theorem fp_RX7_43_2 : FP RX7 43 2 4 := ⟨RX2, RX7, TX2, 14, ci2, by decide, (gm2 (List.mem_of_getElem? (i := 15) rfl) rfl), Or.inl rfl, rfl⟩
theorem fp_RX7_46_2 : FP RX7 46 2 5 := ⟨RX2, RX7, TX2, 14, ci2, by decide, (gm2 (List.mem_of_getElem? (i := 16) rfl) rfl), Or.inl rfl, rfl⟩
theorem fp_RX7_49_2 : FP RX7 49 2 10 := ⟨RX2, RX7, TX2, 14, ci2, by decide, (gm2 (List.mem_of_getElem? (i := 31) rfl) rfl), Or.inl rfl, rfl⟩
theorem fp_RX7_52_2 : FP RX7 52 2 11 := ⟨RX2, RX7, TX2, 14, ci2, by decide, (gm2 (List.mem_of_getElem? (i := 37) rfl) rfl), Or.inl rfl, rfl⟩
theorem fp_RX7_15_3 : FP RX7 15 3 1 := ⟨RX3, RX7, TX3, 15, ci3, by decide, (gm2 (List.mem_of_getElem? (i := 12) rfl) rfl), Or.inl rfl, rfl⟩
theorem fp_RX7_37_3 : FP RX7 37 3 2 := ⟨RX3, RX7, TX3, 15, ci3, by decide, (gm2 (List.mem_of_getElem? (i := 13) rfl) rfl), Or.inl rfl, rfl⟩
theorem fp_RX7_40_3 : FP RX7 40 3 3 := ⟨RX3, RX7, TX3, 15, ci3, by decide, (gm2 (List.mem_of_getElem? (i := 14) rfl) rfl), Or.inl rfl, rfl⟩
theorem fp_RX7_43_3 : FP RX7 43 3 4 := ⟨RX3, RX7, TX3, 15, ci3, by decide, (gm2 (List.mem_of_getElem? (i := 15) rfl) rfl), Or.inl rfl, rfl⟩
theorem fp_RX7_46_3 : FP RX7 46 3 5 := ⟨RX3, RX7, TX3, 15, ci3, by decide, (gm2 (List.mem_of_getElem? (i := 16) rfl) rfl), Or.inl rfl, rfl⟩
theorem fp_RX7_49_3 : FP RX7 49 3 10 := ⟨RX3, RX7, TX3, 15, ci3, by decide, (gm2 (List.mem_of_getElem? (i := 31) rfl) rfl), Or.inl rfl, rfl⟩
theorem fp_RX7_52_3 : FP RX7 52 3 11 := ⟨RX3, RX7, TX3, 15, ci3, by decide, (gm2 (List.mem_of_getElem? (i := 37) rfl) rfl), Or.inl rfl, rfl⟩
theorem fp_RX7_67_2 : FP RX7 67 2 7 := ⟨RX2, RX7, TX2, 14, ci2, by decide, (gm2 (List.mem_of_getElem? (i := 22) rfl) rfl), Or.inl rfl, rfl⟩
theorem fl_RX7_43_2 : FL RX7 43 2 4 := ⟨RX2, RX7, TX2, 14, ci2, by decide, (gm2 (List.mem_of_getElem? (i := 15) rfl) rfl), Or.inl rfl⟩
theorem fl_RX7_37_2 : FL RX7 37 2 2 := ⟨RX2, RX7, TX2, 14, ci2, by decide, (gm2 (List.mem_of_getElem? (i := 13) rfl) rfl), Or.inl rfl⟩
theorem fl_RX7_15_2 : FL RX7 15 2 1 := ⟨RX2, RX7, TX2, 14, ci2, by decide, (gm2 (List.mem_of_getElem? (i := 12) rfl) rfl), Or.inl rfl⟩
theorem fl_RX7_67_2 : FL RX7 67 2 7 := ⟨RX2, RX7, TX2, 14, ci2, by decide, (gm2 (List.mem_of_getElem? (i := 22) rfl) rfl), Or.inl rfl⟩
theorem fp_RX7_58_2 : FP RX7 58 2 8 := ⟨RX2, RX7, TX2, 14, ci2, by decide, (gm2 (List.mem_of_getElem? (i := 25) rfl) rfl), Or.inl rfl, rfl⟩
theorem fp_RX7_61_2 : FP RX7 61 2 6 := ⟨RX2, RX7, TX2, 14, ci2, by decide, (gm2 (List.mem_of_getElem? (i := 19) rfl) rfl), Or.inl rfl, rfl⟩
theorem fp_RX7_61_3 : FP RX7 61 3 6 := ⟨RX3, RX7, TX3, 15, ci3, by decide, (gm2 (List.mem_of_getElem? (i := 19) rfl) rfl), Or.inl rfl, rfl⟩
theorem fp_RX7_58_3 : FP RX7 58 3 8 := ⟨RX3, RX7, TX3, 15, ci3, by decide, (gm2 (List.mem_of_getElem? (i := 25) rfl) rfl), Or.inl rfl, rfl⟩
theorem fl_RX7_43_3 : FL RX7 43 3 4 := ⟨RX3, RX7, TX3, 15, ci3, by decide, (gm2 (List.mem_of_getElem? (i := 15) rfl) rfl), Or.inl rfl⟩
theorem fl_RX7_67_3 : FL RX7 67 3 7 := ⟨RX3, RX7, TX3, 15, ci3, by decide, (gm2 (List.mem_of_getElem? (i := 22) rfl) rfl), Or.inl rfl⟩
theorem fp_RX7_67_3 : FP RX7 67 3 7 := ⟨RX3, RX7, TX3, 15, ci3, by decide, (gm2 (List.mem_of_getElem? (i := 22) rfl) rfl), Or.inl rfl, rfl⟩
theorem fl_RX7_37_3 : FL RX7 37 3 2 := ⟨RX3, RX7, TX3, 15, ci3, by decide, (gm2 (List.mem_of_getElem? (i := 13) rfl) rfl), Or.inl rfl⟩
theorem fl_RX7_15_3 : FL RX7 15 3 1 := ⟨RX3, RX7, TX3, 15, ci3, by decide, (gm2 (List.mem_of_getElem? (i := 12) rfl) rfl), Or.inl rfl⟩
theorem fl_RX7_11_2 : FL RX7 11 2 0 := ⟨RX2, RX7, TX2, 14, ci2, by decide, (gm2 (List.mem_of_getElem? (i := 11) rfl) rfl), Or.inl rfl⟩
theorem fl_RX7_11_3 : FL RX7 11 3 0 := ⟨RX3, RX7, TX3, 15, ci3, by decide, (gm2 (List.mem_of_getElem? (i := 11) rfl) rfl), Or.inl rfl⟩
theorem fl_RX7_49_2 : FL RX7 49 2 10 := ⟨RX2, RX7, TX2, 14, ci2, by decide, (gm2 (List.mem_of_getElem? (i := 31) rfl) rfl), Or.inl rfl⟩
theorem fp_RX7_55_2 : FP RX7 55 2 9 := ⟨RX2, RX7, TX2, 14, ci2, by decide, (gm2 (List.mem_of_getElem? (i := 30) rfl) rfl), Or.inl rfl, rfl⟩
theorem fl_RX7_40_2 : FL RX7 40 2 3 := ⟨RX2, RX7, TX2, 14, ci2, by decide, (gm2 (List.mem_of_getElem? (i := 14) rfl) rfl), Or.inl rfl⟩
theorem yl_X7_readRun : YL yX7_readRun cX7_readRun 4 none 0 := ⟨(gm3 (List.mem_of_getElem? (i := 151) rfl) rfl), (gm1 (List.mem_of_getElem? (i := 2) rfl) rfl), by decide, by decide, by decide +kernel⟩
theorem fl_RX7_61_2 : FL RX7 61 2 6 := ⟨RX2, RX7, TX2, 14, ci2, by decide, (gm2 (List.mem_of_getElem? (i := 19) rfl) rfl), Or.inl rfl⟩
theorem yl_X7_wordOf : YL yX7_wordOf cX7_wordOf 3 (some .int) 1 := ⟨(gm3 (List.mem_of_getElem? (i := 155) rfl) rfl), (gm1 (List.mem_of_getElem? (i := 2) rfl) rfl), by decide, by decide, by decide +kernel⟩
theorem fl_RX7_61_3 : FL RX7 61 3 6 := ⟨RX3, RX7, TX3, 15, ci3, by decide, (gm2 (List.mem_of_getElem? (i := 19) rfl) rfl), Or.inl rfl⟩
theorem fp_RX7_55_3 : FP RX7 55 3 9 := ⟨RX3, RX7, TX3, 15, ci3, by decide, (gm2 (List.mem_of_getElem? (i := 30) rfl) rfl), Or.inl rfl, rfl⟩
theorem fl_RX7_49_3 : FL RX7 49 3 10 := ⟨RX3, RX7, TX3, 15, ci3, by decide, (gm2 (List.mem_of_getElem? (i := 31) rfl) rfl), Or.inl rfl⟩
theorem fl_RX7_40_3 : FL RX7 40 3 3 := ⟨RX3, RX7, TX3, 15, ci3, by decide, (gm2 (List.mem_of_getElem? (i := 14) rfl) rfl), Or.inl rfl⟩
theorem fl_RX7_46_2 : FL RX7 46 2 5 := ⟨RX2, RX7, TX2, 14, ci2, by decide, (gm2 (List.mem_of_getElem? (i := 16) rfl) rfl), Or.inl rfl⟩
theorem fl_RX7_46_3 : FL RX7 46 3 5 := ⟨RX3, RX7, TX3, 15, ci3, by decide, (gm2 (List.mem_of_getElem? (i := 16) rfl) rfl), Or.inl rfl⟩
theorem dX0_stateOf_0 : decode cX0_stateOf 0 = .ok (.iconst 0, 1) := by decide +kernel
theorem dX0_stateOf_1 : decode cX0_stateOf 1 = .ok (.istore_n 2, 1) := by decide +kernel
theorem dX0_stateOf_2 : decode cX0_stateOf 2 = .ok (.iconst 0, 1) := by decide +kernel
theorem dX0_stateOf_3 : decode cX0_stateOf 3 = .ok (.istore_n 3, 1) := by decide +kernel
theorem dX0_stateOf_4 : decode cX0_stateOf 4 = .ok (.iload_n 3, 1) := by decide +kernel
theorem dX0_stateOf_5 : decode cX0_stateOf 5 = .ok (.iconst 3, 1) := by decide +kernel
theorem dX0_stateOf_6 : decode cX0_stateOf 6 = .ok (.if_icmp .ge 51, 3) := by decide +kernel
theorem dX0_stateOf_9 : decode cX0_stateOf 9 = .ok (.iload_n 3, 1) := by decide +kernel
theorem dX0_stateOf_10 : decode cX0_stateOf 10 = .ok (.aload_n 0, 1) := by decide +kernel
theorem dX0_stateOf_11 : decode cX0_stateOf 11 = .ok (.getfield 37, 3) := by decide +kernel
theorem dX0_stateOf_14 : decode cX0_stateOf 14 = .ok (.getfield 41, 3) := by decide +kernel
theorem dX0_stateOf_17 : decode cX0_stateOf 17 = .ok (.if_icmp .ge 23, 3) := by decide +kernel
theorem dX0_stateOf_20 : decode cX0_stateOf 20 = .ok (.aload_n 0, 1) := by decide +kernel
theorem dX0_stateOf_21 : decode cX0_stateOf 21 = .ok (.getfield 22, 3) := by decide +kernel
theorem dX0_stateOf_24 : decode cX0_stateOf 24 = .ok (.iload_n 3, 1) := by decide +kernel
theorem dX0_stateOf_25 : decode cX0_stateOf 25 = .ok (.sipush 128, 3) := by decide +kernel
theorem dX0_stateOf_28 : decode cX0_stateOf 28 = .ok (.imul, 1) := by decide +kernel
theorem dX0_stateOf_29 : decode cX0_stateOf 29 = .ok (.aload_n 1, 1) := by decide +kernel
theorem dX0_stateOf_30 : decode cX0_stateOf 30 = .ok (.getfield 126, 3) := by decide +kernel
theorem dX0_stateOf_33 : decode cX0_stateOf 33 = .ok (.iload_n 3, 1) := by decide +kernel
theorem dX0_stateOf_34 : decode cX0_stateOf 34 = .ok (.iaload, 1) := by decide +kernel
theorem dX0_stateOf_35 : decode cX0_stateOf 35 = .ok (.iadd, 1) := by decide +kernel
theorem dX0_stateOf_36 : decode cX0_stateOf 36 = .ok (.iaload, 1) := by decide +kernel
theorem dX0_stateOf_37 : decode cX0_stateOf 37 = .ok (.goto 4, 3) := by decide +kernel
theorem dX0_stateOf_40 : decode cX0_stateOf 40 = .ok (.iconst 0, 1) := by decide +kernel
theorem dX0_stateOf_41 : decode cX0_stateOf 41 = .ok (.istore 4, 2) := by decide +kernel
theorem dX0_stateOf_43 : decode cX0_stateOf 43 = .ok (.iload_n 2, 1) := by decide +kernel
theorem dX0_stateOf_44 : decode cX0_stateOf 44 = .ok (.bipush 6, 2) := by decide +kernel
theorem dX0_stateOf_46 : decode cX0_stateOf 46 = .ok (.ishl, 1) := by decide +kernel
theorem dX0_stateOf_47 : decode cX0_stateOf 47 = .ok (.iload 4, 2) := by decide +kernel
theorem dX0_stateOf_49 : decode cX0_stateOf 49 = .ok (.ior, 1) := by decide +kernel
theorem dX0_stateOf_50 : decode cX0_stateOf 50 = .ok (.istore_n 2, 1) := by decide +kernel
theorem dX0_stateOf_51 : decode cX0_stateOf 51 = .ok (.iinc 3 1, 3) := by decide +kernel
theorem dX0_stateOf_54 : decode cX0_stateOf 54 = .ok (.goto (-50), 3) := by decide +kernel
theorem dX0_stateOf_57 : decode cX0_stateOf 57 = .ok (.iload_n 2, 1) := by decide +kernel
theorem dX0_stateOf_58 : decode cX0_stateOf 58 = .ok (.ireturn, 1) := by decide +kernel
def wb_X0_stateOf_41 (K4 : AH → Nat → Nat → Int32 → Int32 → Prop) (h : AH) (al0 : Nat) (al1 : Nat) (xl2 : Int32) (xl3 : Int32) (xs0 : Int32) (post : AH → Int32 → Prop) : Prop := ∀ iv1 : Int32, iv1 = (xl2 <<< ((6 : Int32) &&& 31)) ||| xs0 → (∀ iv2 : Int32, iv2 = xl3 + 1 → (K4 h al0 al1 iv1 iv2))
set_option maxRecDepth 100000 in
theorem tb_X0_stateOf_41 {G : GG} {p : Program} {l : Launch} {e : Env} {R : Room} {s : State} {m : MethodId} {args : Array Value} {below : List Frame} {meth : Method} {c : Code} {n0 s0 : Nat} {post : AH → Int32 → Prop} (C : Cx G p R s m args meth c 5 cX0_stateOf RX0 n0 s0 0 0) (hr : meth.sig.returnType = (some .int)) {K4 : AH → Nat → Nat → Int32 → Int32 → Prop} (hK4 : ∀ (h : AH) (al0 : Nat) (al1 : Nat) (xl2 : Int32) (xl3 : Int32), K4 h al0 al1 xl2 xl3 → AW G p l e R s m args below meth c 5 (QM G (pI post) args s below n0 s0) 4 [(0, .ref (G.1 + al0)), (1, .ref (G.1 + al1)), (2, .int xl2), (3, .int xl3)] [] h) {h : AH} {al0 : Nat} {al1 : Nat} {xl2 : Int32} {xl3 : Int32} {xs0 : Int32} (hw : wb_X0_stateOf_41 K4 h al0 al1 xl2 xl3 xs0 post) : AW G p l e R s m args below meth c 5 (QM G (pI post) args s below n0 s0) 41 [(0, .ref (G.1 + al0)), (1, .ref (G.1 + al1)), (2, .int xl2), (3, .int xl3)] [.int xs0] h := by
  unfold wb_X0_stateOf_41 at hw
  refine r_istore C dX0_stateOf_41 [(4, .int xs0), (0, .ref (G.1 + al0)), (1, .ref (G.1 + al1)), (2, .int xl2), (3, .int xl3)] (by decide) rfl ?_
  refine r_iload_n C dX0_stateOf_43 3 rfl ?_
  refine r_bipush (v := 6) C dX0_stateOf_44 (by decide) ?_
  refine r_ishl C dX0_stateOf_46 ?_
  refine r_iload C dX0_stateOf_47 0 rfl ?_
  refine r_ior C dX0_stateOf_49 ?_
  refine r_topi fun iv1 eiv1 => ?_
  replace hw := hw iv1 eiv1
  refine r_istore_n C dX0_stateOf_50 [(2, .int iv1), (4, .int xs0), (0, .ref (G.1 + al0)), (1, .ref (G.1 + al1)), (3, .int xl3)] (by decide) rfl ?_
  obtain ⟨iv2, eiv2⟩ : ∃ q : Int32, q = xl3 + 1 := ⟨_, rfl⟩
  replace hw := hw iv2 eiv2
  refine r_iinc C dX0_stateOf_51 4 rfl (by rw [eiv2]; rfl) [(3, .int iv2), (2, .int iv1), (4, .int xs0), (0, .ref (G.1 + al0)), (1, .ref (G.1 + al1))] (by decide) rfl ?_
  refine r_goto C dX0_stateOf_54 4 (by decide) ?_
  refine r_sub [3, 4, 1, 0] rfl ?_
  exact hK4 _ _ _ _ _ hw
def wb_X0_stateOf_4 (K4 : AH → Nat → Nat → Int32 → Int32 → Prop) (h : AH) (al0 : Nat) (al1 : Nat) (xl2 : Int32) (xl3 : Int32)  (post : AH → Int32 → Prop) : Prop := (3 ≤ xl3 → (post h xl2)) ∧ (¬ 3 ≤ xl3 → ((ob h al0 0) ∧ (∃ rv1, aP h al0 0 = some rv1 ∧ ((ob h rv1 1) ∧ (((aI h rv1 5) ≤ xl3 → (wb_X0_stateOf_41 K4 h al0 al1 xl2 xl3 0 post)) ∧ (¬ (aI h rv1 5) ≤ xl3 → ((ob h al0 0) ∧ (∃ rv2, aP h al0 4 = some rv2 ∧ ((ob h al1 7) ∧ (∃ rv3, aP h al1 1 = some rv3 ∧ ((ob h rv3 13) ∧ ((vp_in xl3 (aL h rv3)) ∧ ((ob h rv2 13) ∧ ((vp_in ((xl3 * (128 : Int32)) + (aI h rv3 xl3.toNatClampNeg)) (aL h rv2)) ∧ (wb_X0_stateOf_41 K4 h al0 al1 xl2 xl3 (aI h rv2 ((xl3 * (128 : Int32)) + (aI h rv3 xl3.toNatClampNeg)).toNatClampNeg) post)))))))))))))))
set_option maxRecDepth 100000 in
theorem tb_X0_stateOf_4 {G : GG} {p : Program} {l : Launch} {e : Env} {R : Room} {s : State} {m : MethodId} {args : Array Value} {below : List Frame} {meth : Method} {c : Code} {n0 s0 : Nat} {post : AH → Int32 → Prop} (C : Cx G p R s m args meth c 5 cX0_stateOf RX0 n0 s0 0 0) (hr : meth.sig.returnType = (some .int)) {K4 : AH → Nat → Nat → Int32 → Int32 → Prop} (hK4 : ∀ (h : AH) (al0 : Nat) (al1 : Nat) (xl2 : Int32) (xl3 : Int32), K4 h al0 al1 xl2 xl3 → AW G p l e R s m args below meth c 5 (QM G (pI post) args s below n0 s0) 4 [(0, .ref (G.1 + al0)), (1, .ref (G.1 + al1)), (2, .int xl2), (3, .int xl3)] [] h) {h : AH} {al0 : Nat} {al1 : Nat} {xl2 : Int32} {xl3 : Int32}  (hw : wb_X0_stateOf_4 K4 h al0 al1 xl2 xl3 post) : AW G p l e R s m args below meth c 5 (QM G (pI post) args s below n0 s0) 4 [(0, .ref (G.1 + al0)), (1, .ref (G.1 + al1)), (2, .int xl2), (3, .int xl3)] [] h := by
  unfold wb_X0_stateOf_4 at hw
  refine r_iload_n C dX0_stateOf_4 3 rfl ?_
  refine r_iconst (v := 3) C dX0_stateOf_5 (by decide) ?_
  refine r_icmp_ge C dX0_stateOf_6 57 (by decide) (fun hc => ?_) (fun hc => ?_)
  · replace hw := hw.1 hc
    refine r_iload_n C dX0_stateOf_57 2 rfl ?_
    exact r_iret C hr dX0_stateOf_58 hw
  · replace hw := hw.2 hc
    refine r_iload_n C dX0_stateOf_9 3 rfl ?_
    refine r_aload_n C dX0_stateOf_10 0 rfl ?_
    have hob := hw.1
    obtain ⟨rv1, hp, hw⟩ := hw.2
    refine r_getP C fl_RX0_37_0 hob hp (fun _ _ _ => rfl) dX0_stateOf_11 ?_
    refine r_getI C fl_RX0_41_1 hw.1 (fun _ _ _ => rfl) dX0_stateOf_14 ?_
    replace hw := hw.2
    refine r_icmp_ge C dX0_stateOf_17 40 (by decide) (fun hc => ?_) (fun hc => ?_)
    · replace hw := hw.1 hc
      refine r_iconst (v := 0) C dX0_stateOf_40 (by decide) ?_
      refine r_sub [0, 1, 2, 3] rfl ?_
      exact tb_X0_stateOf_41 C hr hK4 hw
    · replace hw := hw.2 hc
      refine r_aload_n C dX0_stateOf_20 0 rfl ?_
      have hob := hw.1
      obtain ⟨rv2, hp, hw⟩ := hw.2
      refine r_getP C fl_RX0_22_0 hob hp (fun _ _ _ => rfl) dX0_stateOf_21 ?_
      refine r_iload_n C dX0_stateOf_24 3 rfl ?_
      refine r_sipush (v := 128) C dX0_stateOf_25 (by decide) ?_
      refine r_imul C dX0_stateOf_28 ?_
      refine r_aload_n C dX0_stateOf_29 1 rfl ?_
      have hob := hw.1
      obtain ⟨rv3, hp, hw⟩ := hw.2
      refine r_getP C fl_RX0_126_7 hob hp (fun _ _ _ => rfl) dX0_stateOf_30 ?_
      refine r_iload_n C dX0_stateOf_33 3 rfl ?_
      refine r_iaload C hw.1 hw.2.1 dX0_stateOf_34 ?_
      replace hw := hw.2.2
      refine r_iadd C dX0_stateOf_35 ?_
      refine r_iaload C hw.1 hw.2.1 dX0_stateOf_36 ?_
      replace hw := hw.2.2
      refine r_goto C dX0_stateOf_37 41 (by decide) ?_
      refine r_sub [0, 1, 2, 3] rfl ?_
      exact tb_X0_stateOf_41 C hr hK4 hw
def wl_X0_stateOf_4  (post : AH → Int32 → Prop) : Nat → AH → Nat → Nat → Int32 → Int32 → Prop
  | 0 => fun _ _ _ _ _ => False
  | n + 1 => fun h al0 al1 xl2 xl3 => wb_X0_stateOf_4  (wl_X0_stateOf_4  post n) h al0 al1 xl2 xl3 post
theorem tl_X0_stateOf_4 {G : GG} {p : Program} {l : Launch} {e : Env} {R : Room} {s : State} {m : MethodId} {args : Array Value} {below : List Frame} {meth : Method} {c : Code} {n0 s0 : Nat} {post : AH → Int32 → Prop} (C : Cx G p R s m args meth c 5 cX0_stateOf RX0 n0 s0 0 0) (hr : meth.sig.returnType = (some .int))   : ∀ (n : Nat) (h : AH) (al0 : Nat) (al1 : Nat) (xl2 : Int32) (xl3 : Int32), wl_X0_stateOf_4  post n h al0 al1 xl2 xl3 → AW G p l e R s m args below meth c 5 (QM G (pI post) args s below n0 s0) 4 [(0, .ref (G.1 + al0)), (1, .ref (G.1 + al1)), (2, .int xl2), (3, .int xl3)] [] h := by
  intro n
  induction n with
  | zero => intro h al0 al1 xl2 xl3 hw; exact hw.elim
  | succ n ih => intro h al0 al1 xl2 xl3 hw; exact tb_X0_stateOf_4 C hr  ih hw
def wp_X0_stateOf (h : AH) (a0 : Nat) (a1 : Nat) (post : AH → Int32 → Prop) : Prop := ∃ n, wl_X0_stateOf_4  post n h a0 a1 0 0
set_option maxRecDepth 100000 in
theorem c_X0_stateOf (G : GG) (h : AH) (a0 : Nat) (a1 : Nat) (post : AH → Int32 → Prop) (hw : wp_X0_stateOf h a0 a1 post) : MC G yX0_stateOf cX0_stateOf 5 (some .int) 0 0 h [.ref (G.1 + a0), .ref (G.1 + a1)] (pI post) := by
  refine MC.of (lv := [(0, .ref (G.1 + a0)), (1, .ref (G.1 + a1))]) (by decide) (Nat.le_of_ble_eq_true rfl) rfl fun p l e R s m args below meth c C hr hnm => ?_
  unfold wp_X0_stateOf at hw
  refine r_iconst (v := 0) C dX0_stateOf_0 (by decide) ?_
  refine r_istore_n C dX0_stateOf_1 [(2, .int 0), (0, .ref (G.1 + a0)), (1, .ref (G.1 + a1))] (by decide) rfl ?_
  refine r_iconst (v := 0) C dX0_stateOf_2 (by decide) ?_
  refine r_istore_n C dX0_stateOf_3 [(3, .int 0), (2, .int 0), (0, .ref (G.1 + a0)), (1, .ref (G.1 + a1))] (by decide) rfl ?_
  refine r_sub [2, 3, 1, 0] rfl ?_
  obtain ⟨n, hw⟩ := hw
  exact tl_X0_stateOf_4 C hr  n _ _ _ _ _ hw
theorem dX0_withNumber_0 : decode cX0_withNumber 0 = .ok (.bipush 6, 2) := by decide +kernel
theorem dX0_withNumber_2 : decode cX0_withNumber 2 = .ok (.iconst 2, 1) := by decide +kernel
theorem dX0_withNumber_3 : decode cX0_withNumber 3 = .ok (.iload_n 1, 1) := by decide +kernel
theorem dX0_withNumber_4 : decode cX0_withNumber 4 = .ok (.isub, 1) := by decide +kernel
theorem dX0_withNumber_5 : decode cX0_withNumber 5 = .ok (.imul, 1) := by decide +kernel
theorem dX0_withNumber_6 : decode cX0_withNumber 6 = .ok (.istore_n 3, 1) := by decide +kernel
theorem dX0_withNumber_7 : decode cX0_withNumber 7 = .ok (.iload_n 0, 1) := by decide +kernel
theorem dX0_withNumber_8 : decode cX0_withNumber 8 = .ok (.bipush 63, 2) := by decide +kernel
theorem dX0_withNumber_10 : decode cX0_withNumber 10 = .ok (.iload_n 3, 1) := by decide +kernel
theorem dX0_withNumber_11 : decode cX0_withNumber 11 = .ok (.ishl, 1) := by decide +kernel
theorem dX0_withNumber_12 : decode cX0_withNumber 12 = .ok (.iconst (-1), 1) := by decide +kernel
theorem dX0_withNumber_13 : decode cX0_withNumber 13 = .ok (.ixor, 1) := by decide +kernel
theorem dX0_withNumber_14 : decode cX0_withNumber 14 = .ok (.iand, 1) := by decide +kernel
theorem dX0_withNumber_15 : decode cX0_withNumber 15 = .ok (.iload_n 2, 1) := by decide +kernel
theorem dX0_withNumber_16 : decode cX0_withNumber 16 = .ok (.iload_n 3, 1) := by decide +kernel
theorem dX0_withNumber_17 : decode cX0_withNumber 17 = .ok (.ishl, 1) := by decide +kernel
theorem dX0_withNumber_18 : decode cX0_withNumber 18 = .ok (.ior, 1) := by decide +kernel
theorem dX0_withNumber_19 : decode cX0_withNumber 19 = .ok (.ireturn, 1) := by decide +kernel
def wp_X0_withNumber (h : AH) (x0 : Int32) (x1 : Int32) (x2 : Int32) (post : AH → Int32 → Prop) : Prop := ∀ iv1 : Int32, iv1 = (6 : Int32) * ((2 : Int32) - x1) → (post h ((x0 &&& (((63 : Int32) <<< (iv1 &&& 31)) ^^^ (-1 : Int32))) ||| (x2 <<< (iv1 &&& 31))))
set_option maxRecDepth 100000 in
theorem c_X0_withNumber (G : GG) (h : AH) (x0 : Int32) (x1 : Int32) (x2 : Int32) (post : AH → Int32 → Prop) (hw : wp_X0_withNumber h x0 x1 x2 post) : MC G yX0_withNumber cX0_withNumber 4 (some .int) 0 0 h [.int x0, .int x1, .int x2] (pI post) := by
  refine MC.of (lv := [(0, .int x0), (1, .int x1), (2, .int x2)]) (by decide) (Nat.le_of_ble_eq_true rfl) rfl fun p l e R s m args below meth c C hr hnm => ?_
  unfold wp_X0_withNumber at hw
  refine r_bipush (v := 6) C dX0_withNumber_0 (by decide) ?_
  refine r_iconst (v := 2) C dX0_withNumber_2 (by decide) ?_
  refine r_iload_n C dX0_withNumber_3 1 rfl ?_
  refine r_isub C dX0_withNumber_4 ?_
  refine r_imul C dX0_withNumber_5 ?_
  refine r_topi fun iv1 eiv1 => ?_
  replace hw := hw iv1 eiv1
  refine r_istore_n C dX0_withNumber_6 [(3, .int iv1), (0, .int x0), (1, .int x1), (2, .int x2)] (by decide) rfl ?_
  refine r_iload_n C dX0_withNumber_7 1 rfl ?_
  refine r_bipush (v := 63) C dX0_withNumber_8 (by decide) ?_
  refine r_iload_n C dX0_withNumber_10 0 rfl ?_
  refine r_ishl C dX0_withNumber_11 ?_
  refine r_iconst (v := (-1)) C dX0_withNumber_12 (by decide) ?_
  refine r_ixor C dX0_withNumber_13 ?_
  refine r_iand C dX0_withNumber_14 ?_
  refine r_iload_n C dX0_withNumber_15 3 rfl ?_
  refine r_iload_n C dX0_withNumber_16 0 rfl ?_
  refine r_ishl C dX0_withNumber_17 ?_
  refine r_ior C dX0_withNumber_18 ?_
  exact r_iret C hr dX0_withNumber_19 hw
theorem dX0_roomFor_0 : decode cX0_roomFor 0 = .ok (.ldc2_w 129, 3) := by decide +kernel
theorem dX0_roomFor_3 : decode cX0_roomFor 3 = .ok (.lstore 4, 2) := by decide +kernel
theorem dX0_roomFor_5 : decode cX0_roomFor 5 = .ok (.iconst 0, 1) := by decide +kernel
theorem dX0_roomFor_6 : decode cX0_roomFor 6 = .ok (.istore 6, 2) := by decide +kernel
theorem dX0_roomFor_8 : decode cX0_roomFor 8 = .ok (.iload 6, 2) := by decide +kernel
theorem dX0_roomFor_10 : decode cX0_roomFor 10 = .ok (.iload_n 3, 1) := by decide +kernel
theorem dX0_roomFor_11 : decode cX0_roomFor 11 = .ok (.if_icmp .gt 47, 3) := by decide +kernel
theorem dX0_roomFor_14 : decode cX0_roomFor 14 = .ok (.iload 6, 2) := by decide +kernel
theorem dX0_roomFor_16 : decode cX0_roomFor 16 = .ok (.iconst 3, 1) := by decide +kernel
theorem dX0_roomFor_17 : decode cX0_roomFor 17 = .ok (.if_icmp .ge 41, 3) := by decide +kernel
theorem dX0_roomFor_20 : decode cX0_roomFor 20 = .ok (.iload 6, 2) := by decide +kernel
theorem dX0_roomFor_22 : decode cX0_roomFor 22 = .ok (.iload_n 1, 1) := by decide +kernel
theorem dX0_roomFor_23 : decode cX0_roomFor 23 = .ok (.if_icmp .eq 29, 3) := by decide +kernel
theorem dX0_roomFor_26 : decode cX0_roomFor 26 = .ok (.lload 4, 2) := by decide +kernel
theorem dX0_roomFor_28 : decode cX0_roomFor 28 = .ok (.aload_n 0, 1) := by decide +kernel
theorem dX0_roomFor_29 : decode cX0_roomFor 29 = .ok (.getfield 28, 3) := by decide +kernel
theorem dX0_roomFor_32 : decode cX0_roomFor 32 = .ok (.iload 6, 2) := by decide +kernel
theorem dX0_roomFor_34 : decode cX0_roomFor 34 = .ok (.iconst 3, 1) := by decide +kernel
theorem dX0_roomFor_35 : decode cX0_roomFor 35 = .ok (.imul, 1) := by decide +kernel
theorem dX0_roomFor_36 : decode cX0_roomFor 36 = .ok (.iload_n 1, 1) := by decide +kernel
theorem dX0_roomFor_37 : decode cX0_roomFor 37 = .ok (.iadd, 1) := by decide +kernel
theorem dX0_roomFor_38 : decode cX0_roomFor 38 = .ok (.bipush 40, 2) := by decide +kernel
theorem dX0_roomFor_40 : decode cX0_roomFor 40 = .ok (.imul, 1) := by decide +kernel
theorem dX0_roomFor_41 : decode cX0_roomFor 41 = .ok (.iload_n 2, 1) := by decide +kernel
theorem dX0_roomFor_42 : decode cX0_roomFor 42 = .ok (.iload 6, 2) := by decide +kernel
theorem dX0_roomFor_44 : decode cX0_roomFor 44 = .ok (.invokestatic 108, 3) := by decide +kernel
theorem dX0_roomFor_47 : decode cX0_roomFor 47 = .ok (.iadd, 1) := by decide +kernel
theorem dX0_roomFor_48 : decode cX0_roomFor 48 = .ok (.laload, 1) := by decide +kernel
theorem dX0_roomFor_49 : decode cX0_roomFor 49 = .ok (.land, 1) := by decide +kernel
theorem dX0_roomFor_50 : decode cX0_roomFor 50 = .ok (.lstore 4, 2) := by decide +kernel
theorem dX0_roomFor_52 : decode cX0_roomFor 52 = .ok (.iinc 6 1, 3) := by decide +kernel
theorem dX0_roomFor_55 : decode cX0_roomFor 55 = .ok (.goto (-47), 3) := by decide +kernel
theorem dX0_roomFor_58 : decode cX0_roomFor 58 = .ok (.lload 4, 2) := by decide +kernel
theorem dX0_roomFor_60 : decode cX0_roomFor 60 = .ok (.lreturn, 1) := by decide +kernel
def wb_X0_roomFor_52 (K8 : AH → Nat → Int32 → Int32 → Int32 → Int64 → Int32 → Prop) (h : AH) (al0 : Nat) (xl1 : Int32) (xl2 : Int32) (xl3 : Int32) (zl4 : Int64) (xl6 : Int32)  (post : AH → Int64 → Prop) : Prop := ∀ iv1 : Int32, iv1 = xl6 + 1 → (K8 h al0 xl1 xl2 xl3 zl4 iv1)
set_option maxRecDepth 100000 in
theorem tb_X0_roomFor_52 {G : GG} {p : Program} {l : Launch} {e : Env} {R : Room} {s : State} {m : MethodId} {args : Array Value} {below : List Frame} {meth : Method} {c : Code} {n0 s0 : Nat} {post : AH → Int64 → Prop} (C : Cx G p R s m args meth c 7 cX0_roomFor RX0 n0 s0 1 21) (hr : meth.sig.returnType = (some .long)) {K8 : AH → Nat → Int32 → Int32 → Int32 → Int64 → Int32 → Prop} (hK8 : ∀ (h : AH) (al0 : Nat) (xl1 : Int32) (xl2 : Int32) (xl3 : Int32) (zl4 : Int64) (xl6 : Int32), K8 h al0 xl1 xl2 xl3 zl4 xl6 → AW G p l e R s m args below meth c 7 (QM G (pJ post) args s below n0 s0) 8 [(0, .ref (G.1 + al0)), (1, .int xl1), (2, .int xl2), (3, .int xl3), (4, .long zl4), (6, .int xl6)] [] h) {h : AH} {al0 : Nat} {xl1 : Int32} {xl2 : Int32} {xl3 : Int32} {zl4 : Int64} {xl6 : Int32}  (hw : wb_X0_roomFor_52 K8 h al0 xl1 xl2 xl3 zl4 xl6 post) : AW G p l e R s m args below meth c 7 (QM G (pJ post) args s below n0 s0) 52 [(0, .ref (G.1 + al0)), (1, .int xl1), (2, .int xl2), (3, .int xl3), (4, .long zl4), (6, .int xl6)] [] h := by
  unfold wb_X0_roomFor_52 at hw
  obtain ⟨iv1, eiv1⟩ : ∃ q : Int32, q = xl6 + 1 := ⟨_, rfl⟩
  replace hw := hw iv1 eiv1
  refine r_iinc C dX0_roomFor_52 5 rfl (by rw [eiv1]; rfl) [(6, .int iv1), (0, .ref (G.1 + al0)), (1, .int xl1), (2, .int xl2), (3, .int xl3), (4, .long zl4)] (by decide) rfl ?_
  refine r_goto C dX0_roomFor_55 8 (by decide) ?_
  refine r_sub [1, 2, 3, 4, 5, 0] rfl ?_
  exact hK8 _ _ _ _ _ _ _ hw
def wb_X0_roomFor_8 (K8 : AH → Nat → Int32 → Int32 → Int32 → Int64 → Int32 → Prop) (h : AH) (al0 : Nat) (xl1 : Int32) (xl2 : Int32) (xl3 : Int32) (zl4 : Int64) (xl6 : Int32)  (post : AH → Int64 → Prop) : Prop := (xl3 < xl6 → (post h zl4)) ∧ (¬ xl3 < xl6 → ((3 ≤ xl6 → (post h zl4)) ∧ (¬ 3 ≤ xl6 → ((xl6 = xl1 → (wb_X0_roomFor_52 K8 h al0 xl1 xl2 xl3 zl4 xl6 post)) ∧ (¬ xl6 = xl1 → ((ob h al0 0) ∧ (∃ rv1, aP h al0 6 = some rv1 ∧ (wp_X0_numberIn h xl2 xl6 (fun hv2 iv3 => (ob hv2 rv1 14) ∧ ((vp_in ((((xl6 * (3 : Int32)) + xl1) * (40 : Int32)) + iv3) (aL hv2 rv1)) ∧ (∀ jv4 : Int64, jv4 = zl4 &&& (aJ hv2 rv1 ((((xl6 * (3 : Int32)) + xl1) * (40 : Int32)) + iv3).toNatClampNeg) → (wb_X0_roomFor_52 K8 hv2 al0 xl1 xl2 xl3 jv4 xl6 post))))))))))))
set_option maxRecDepth 100000 in
theorem tb_X0_roomFor_8 {G : GG} {p : Program} {l : Launch} {e : Env} {R : Room} {s : State} {m : MethodId} {args : Array Value} {below : List Frame} {meth : Method} {c : Code} {n0 s0 : Nat} {post : AH → Int64 → Prop} (C : Cx G p R s m args meth c 7 cX0_roomFor RX0 n0 s0 1 21) (hr : meth.sig.returnType = (some .long)) {K8 : AH → Nat → Int32 → Int32 → Int32 → Int64 → Int32 → Prop} (hK8 : ∀ (h : AH) (al0 : Nat) (xl1 : Int32) (xl2 : Int32) (xl3 : Int32) (zl4 : Int64) (xl6 : Int32), K8 h al0 xl1 xl2 xl3 zl4 xl6 → AW G p l e R s m args below meth c 7 (QM G (pJ post) args s below n0 s0) 8 [(0, .ref (G.1 + al0)), (1, .int xl1), (2, .int xl2), (3, .int xl3), (4, .long zl4), (6, .int xl6)] [] h) {h : AH} {al0 : Nat} {xl1 : Int32} {xl2 : Int32} {xl3 : Int32} {zl4 : Int64} {xl6 : Int32}  (hw : wb_X0_roomFor_8 K8 h al0 xl1 xl2 xl3 zl4 xl6 post) : AW G p l e R s m args below meth c 7 (QM G (pJ post) args s below n0 s0) 8 [(0, .ref (G.1 + al0)), (1, .int xl1), (2, .int xl2), (3, .int xl3), (4, .long zl4), (6, .int xl6)] [] h := by
  unfold wb_X0_roomFor_8 at hw
  refine r_iload C dX0_roomFor_8 5 rfl ?_
  refine r_iload_n C dX0_roomFor_10 3 rfl ?_
  refine r_icmp_gt C dX0_roomFor_11 58 (by decide) (fun hc => ?_) (fun hc => ?_)
  · replace hw := hw.1 hc
    refine r_lload C dX0_roomFor_58 4 rfl ?_
    exact r_lret C hr dX0_roomFor_60 hw
  · replace hw := hw.2 hc
    refine r_iload C dX0_roomFor_14 5 rfl ?_
    refine r_iconst (v := 3) C dX0_roomFor_16 (by decide) ?_
    refine r_icmp_ge C dX0_roomFor_17 58 (by decide) (fun hc => ?_) (fun hc => ?_)
    · replace hw := hw.1 hc
      refine r_lload C dX0_roomFor_58 4 rfl ?_
      exact r_lret C hr dX0_roomFor_60 hw
    · replace hw := hw.2 hc
      refine r_iload C dX0_roomFor_20 5 rfl ?_
      refine r_iload_n C dX0_roomFor_22 1 rfl ?_
      refine r_icmp_eq C dX0_roomFor_23 52 (by decide) (fun hc => ?_) (fun hc => ?_)
      · replace hw := hw.1 hc
        refine r_sub [0, 1, 2, 3, 4, 5] rfl ?_
        exact tb_X0_roomFor_52 C hr hK8 hw
      · replace hw := hw.2 hc
        refine r_lload C dX0_roomFor_26 4 rfl ?_
        refine r_aload_n C dX0_roomFor_28 0 rfl ?_
        have hob := hw.1
        obtain ⟨rv1, hp, hw⟩ := hw.2
        refine r_getP C fl_RX0_28_0 hob hp (fun _ _ _ => rfl) dX0_roomFor_29 ?_
        refine r_iload C dX0_roomFor_32 5 rfl ?_
        refine r_iconst (v := 3) C dX0_roomFor_34 (by decide) ?_
        refine r_imul C dX0_roomFor_35 ?_
        refine r_iload_n C dX0_roomFor_36 1 rfl ?_
        refine r_iadd C dX0_roomFor_37 ?_
        refine r_bipush (v := 40) C dX0_roomFor_38 (by decide) ?_
        refine r_imul C dX0_roomFor_40 ?_
        refine r_iload_n C dX0_roomFor_41 2 rfl ?_
        refine r_iload C dX0_roomFor_42 5 rfl ?_
        refine r_callS C (As := [.int xl2, .int xl6]) (rest := [.int (((xl6 * (3 : Int32)) + xl1) * (40 : Int32)), .ref (G.1 + rv1), .long zl4]) (c_X0_numberIn G h xl2 xl6 _ hw) yl_X0_numberIn (gm5 (List.mem_of_getElem? (i := 166) rfl) rfl) (gm5 (List.mem_of_getElem? (i := 159) rfl) rfl) (by decide) rfl (Nat.le_of_ble_eq_true rfl) dX0_roomFor_44 rfl (kI fun hv2 iv3 hw => ?_)
        refine r_iadd C dX0_roomFor_47 ?_
        refine r_laload C hw.1 hw.2.1 dX0_roomFor_48 ?_
        replace hw := hw.2.2
        refine r_land C dX0_roomFor_49 ?_
        refine r_topl fun jv4 ejv4 => ?_
        replace hw := hw jv4 ejv4
        refine r_lstore C dX0_roomFor_50 [(4, .long jv4), (0, .ref (G.1 + al0)), (1, .int xl1), (2, .int xl2), (3, .int xl3), (6, .int xl6)] (by decide) rfl ?_
        refine r_sub [1, 2, 3, 4, 0, 5] rfl ?_
        exact tb_X0_roomFor_52 C hr hK8 hw
def wl_X0_roomFor_8  (post : AH → Int64 → Prop) : Nat → AH → Nat → Int32 → Int32 → Int32 → Int64 → Int32 → Prop
  | 0 => fun _ _ _ _ _ _ _ => False
  | n + 1 => fun h al0 xl1 xl2 xl3 zl4 xl6 => wb_X0_roomFor_8  (wl_X0_roomFor_8  post n) h al0 xl1 xl2 xl3 zl4 xl6 post
theorem tl_X0_roomFor_8 {G : GG} {p : Program} {l : Launch} {e : Env} {R : Room} {s : State} {m : MethodId} {args : Array Value} {below : List Frame} {meth : Method} {c : Code} {n0 s0 : Nat} {post : AH → Int64 → Prop} (C : Cx G p R s m args meth c 7 cX0_roomFor RX0 n0 s0 1 21) (hr : meth.sig.returnType = (some .long))   : ∀ (n : Nat) (h : AH) (al0 : Nat) (xl1 : Int32) (xl2 : Int32) (xl3 : Int32) (zl4 : Int64) (xl6 : Int32), wl_X0_roomFor_8  post n h al0 xl1 xl2 xl3 zl4 xl6 → AW G p l e R s m args below meth c 7 (QM G (pJ post) args s below n0 s0) 8 [(0, .ref (G.1 + al0)), (1, .int xl1), (2, .int xl2), (3, .int xl3), (4, .long zl4), (6, .int xl6)] [] h := by
  intro n
  induction n with
  | zero => intro h al0 xl1 xl2 xl3 zl4 xl6 hw; exact hw.elim
  | succ n ih => intro h al0 xl1 xl2 xl3 zl4 xl6 hw; exact tb_X0_roomFor_8 C hr  ih hw
def wp_X0_roomFor (h : AH) (a0 : Nat) (x1 : Int32) (x2 : Int32) (x3 : Int32) (post : AH → Int64 → Prop) : Prop := ∀ jv1 : Int64, jv1 = -1 → (∃ n, wl_X0_roomFor_8  post n h a0 x1 x2 x3 jv1 0)
set_option maxRecDepth 100000 in
theorem c_X0_roomFor (G : GG) (h : AH) (a0 : Nat) (x1 : Int32) (x2 : Int32) (x3 : Int32) (post : AH → Int64 → Prop) (hw : wp_X0_roomFor h a0 x1 x2 x3 post) : MC G yX0_roomFor cX0_roomFor 7 (some .long) 1 21 h [.ref (G.1 + a0), .int x1, .int x2, .int x3] (pJ post) := by
  refine MC.of (lv := [(0, .ref (G.1 + a0)), (1, .int x1), (2, .int x2), (3, .int x3)]) (by decide) (Nat.le_of_ble_eq_true rfl) rfl fun p l e R s m args below meth c C hr hnm => ?_
  unfold wp_X0_roomFor at hw
  refine r_ldc2 (v := -1) C (gm5 (List.mem_of_getElem? (i := 165) rfl) rfl) dX0_roomFor_0 ?_
  refine r_topl fun jv1 ejv1 => ?_
  replace hw := hw jv1 ejv1
  refine r_lstore C dX0_roomFor_3 [(4, .long jv1), (0, .ref (G.1 + a0)), (1, .int x1), (2, .int x2), (3, .int x3)] (by decide) rfl ?_
  refine r_iconst (v := 0) C dX0_roomFor_5 (by decide) ?_
  refine r_istore C dX0_roomFor_6 [(6, .int 0), (4, .long jv1), (0, .ref (G.1 + a0)), (1, .int x1), (2, .int x2), (3, .int x3)] (by decide) rfl ?_
  refine r_sub [2, 3, 4, 5, 1, 0] rfl ?_
  obtain ⟨n, hw⟩ := hw
  exact tl_X0_roomFor_8 C hr  n _ _ _ _ _ _ _ hw
theorem dX4_init_0 : decode cX4_init 0 = .ok (.aload_n 0, 1) := by decide +kernel
theorem dX4_init_1 : decode cX4_init 1 = .ok (.invokespecial 3, 3) := by decide +kernel
theorem dX4_init_4 : decode cX4_init 4 = .ok (.aload_n 0, 1) := by decide +kernel
theorem dX4_init_5 : decode cX4_init 5 = .ok (.bipush 8, 2) := by decide +kernel
theorem dX4_init_7 : decode cX4_init 7 = .ok (.newarray .int, 2) := by decide +kernel
theorem dX4_init_9 : decode cX4_init 9 = .ok (.putfield 9, 3) := by decide +kernel
theorem dX4_init_12 : decode cX4_init 12 = .ok (.aload_n 0, 1) := by decide +kernel
theorem dX4_init_13 : decode cX4_init 13 = .ok (.bipush 8, 2) := by decide +kernel
theorem dX4_init_15 : decode cX4_init 15 = .ok (.newarray .int, 2) := by decide +kernel
theorem dX4_init_17 : decode cX4_init 17 = .ok (.putfield 15, 3) := by decide +kernel
theorem dX4_init_20 : decode cX4_init 20 = .ok (.aload_n 0, 1) := by decide +kernel
theorem dX4_init_21 : decode cX4_init 21 = .ok (.bipush 8, 2) := by decide +kernel
theorem dX4_init_23 : decode cX4_init 23 = .ok (.newarray .int, 2) := by decide +kernel
theorem dX4_init_25 : decode cX4_init 25 = .ok (.putfield 18, 3) := by decide +kernel
theorem dX4_init_28 : decode cX4_init 28 = .ok (.aload_n 0, 1) := by decide +kernel
theorem dX4_init_29 : decode cX4_init 29 = .ok (.bipush 8, 2) := by decide +kernel
theorem dX4_init_31 : decode cX4_init 31 = .ok (.newarray .int, 2) := by decide +kernel
theorem dX4_init_33 : decode cX4_init 33 = .ok (.putfield 21, 3) := by decide +kernel
theorem dX4_init_36 : decode cX4_init 36 = .ok (.aload_n 0, 1) := by decide +kernel
theorem dX4_init_37 : decode cX4_init 37 = .ok (.bipush 8, 2) := by decide +kernel
theorem dX4_init_39 : decode cX4_init 39 = .ok (.newarray .int, 2) := by decide +kernel
theorem dX4_init_41 : decode cX4_init 41 = .ok (.putfield 24, 3) := by decide +kernel
theorem dX4_init_44 : decode cX4_init 44 = .ok (.return_, 1) := by decide +kernel
def wp_X4_init (h : AH) (a0 : Nat) (post : AH → Prop) : Prop := (¬ (8 : Int32) < 0) ∧ ((aN h < 601024 ∧ aS h + (8 : Int32).toNatClampNeg ≤ 7293034) ∧ (∀ (hv1 : AH) (rv2 : Nat), hv1 = hNew h 13 (8 : Int32).toNatClampNeg → rv2 = aN h → ((ob hv1 a0 4) ∧ (∀ hv3 : AH, hv3 = hP hv1 a0 1 rv2 → ((¬ (8 : Int32) < 0) ∧ ((aN hv3 < 601024 ∧ aS hv3 + (8 : Int32).toNatClampNeg ≤ 7293034) ∧ (∀ (hv4 : AH) (rv5 : Nat), hv4 = hNew hv3 13 (8 : Int32).toNatClampNeg → rv5 = aN hv3 → ((ob hv4 a0 4) ∧ (∀ hv6 : AH, hv6 = hP hv4 a0 2 rv5 → ((¬ (8 : Int32) < 0) ∧ ((aN hv6 < 601024 ∧ aS hv6 + (8 : Int32).toNatClampNeg ≤ 7293034) ∧ (∀ (hv7 : AH) (rv8 : Nat), hv7 = hNew hv6 13 (8 : Int32).toNatClampNeg → rv8 = aN hv6 → ((ob hv7 a0 4) ∧ (∀ hv9 : AH, hv9 = hP hv7 a0 3 rv8 → ((¬ (8 : Int32) < 0) ∧ ((aN hv9 < 601024 ∧ aS hv9 + (8 : Int32).toNatClampNeg ≤ 7293034) ∧ (∀ (hv10 : AH) (rv11 : Nat), hv10 = hNew hv9 13 (8 : Int32).toNatClampNeg → rv11 = aN hv9 → ((ob hv10 a0 4) ∧ (∀ hv12 : AH, hv12 = hP hv10 a0 4 rv11 → ((¬ (8 : Int32) < 0) ∧ ((aN hv12 < 601024 ∧ aS hv12 + (8 : Int32).toNatClampNeg ≤ 7293034) ∧ (∀ (hv13 : AH) (rv14 : Nat), hv13 = hNew hv12 13 (8 : Int32).toNatClampNeg → rv14 = aN hv12 → ((ob hv13 a0 4) ∧ (∀ hv15 : AH, hv15 = hP hv13 a0 5 rv14 → (post hv15)))))))))))))))))))))))))
set_option maxRecDepth 100000 in
theorem c_X4_init (G : GG) (h : AH) (a0 : Nat) (post : AH → Prop) (hw : wp_X4_init h a0 post) : MC G yX4_init cX4_init 1 none 1 20 h [.ref (G.1 + a0)] (pV post) := by
  refine MC.of (lv := [(0, .ref (G.1 + a0))]) (by decide) (Nat.le_of_ble_eq_true rfl) rfl fun p l e R s m args below meth c C hr hnm => ?_
  unfold wp_X4_init at hw
  refine r_aload_n C dX4_init_0 0 rfl ?_
  refine r_objInit C (gm1 (List.mem_of_getElem? (i := 103) rfl) rfl) (gm1 (List.mem_of_getElem? (i := 32) rfl) rfl) (gm1 (List.mem_of_getElem? (i := 33) rfl) rfl) dX4_init_1 ⟨by decide, Nat.le_of_ble_eq_true rfl⟩ ?_
  refine r_aload_n C dX4_init_4 0 rfl ?_
  refine r_bipush (v := 8) C dX4_init_5 (by decide) ?_
  refine r_newI C hw.1 hw.2.1 dX4_init_7 (gm1 (List.mem_of_getElem? (i := 133) rfl) rfl) ?_
  replace hw := hw.2.2
  refine r_topn fun hv1 rv2 ehv1 erv2 => ?_
  replace hw := hw hv1 rv2 ehv1 erv2
  refine r_putPF C ff_RX4_9_4 hnm hw.1 (fun _ _ _ => rfl) dX4_init_9 ?_
  replace hw := hw.2
  refine r_toph fun hv3 ehv3 => ?_
  replace hw := hw hv3 ehv3
  refine r_aload_n C dX4_init_12 0 rfl ?_
  refine r_bipush (v := 8) C dX4_init_13 (by decide) ?_
  refine r_newI C hw.1 hw.2.1 dX4_init_15 (gm1 (List.mem_of_getElem? (i := 133) rfl) rfl) ?_
  replace hw := hw.2.2
  refine r_topn fun hv4 rv5 ehv4 erv5 => ?_
  replace hw := hw hv4 rv5 ehv4 erv5
  refine r_putPF C ff_RX4_15_4 hnm hw.1 (fun _ _ _ => rfl) dX4_init_17 ?_
  replace hw := hw.2
  refine r_toph fun hv6 ehv6 => ?_
  replace hw := hw hv6 ehv6
  refine r_aload_n C dX4_init_20 0 rfl ?_
  refine r_bipush (v := 8) C dX4_init_21 (by decide) ?_
  refine r_newI C hw.1 hw.2.1 dX4_init_23 (gm1 (List.mem_of_getElem? (i := 133) rfl) rfl) ?_
  replace hw := hw.2.2
  refine r_topn fun hv7 rv8 ehv7 erv8 => ?_
  replace hw := hw hv7 rv8 ehv7 erv8
  refine r_putPF C ff_RX4_18_4 hnm hw.1 (fun _ _ _ => rfl) dX4_init_25 ?_
  replace hw := hw.2
  refine r_toph fun hv9 ehv9 => ?_
  replace hw := hw hv9 ehv9
  refine r_aload_n C dX4_init_28 0 rfl ?_
  refine r_bipush (v := 8) C dX4_init_29 (by decide) ?_
  refine r_newI C hw.1 hw.2.1 dX4_init_31 (gm1 (List.mem_of_getElem? (i := 133) rfl) rfl) ?_
  replace hw := hw.2.2
  refine r_topn fun hv10 rv11 ehv10 erv11 => ?_
  replace hw := hw hv10 rv11 ehv10 erv11
  refine r_putPF C ff_RX4_21_4 hnm hw.1 (fun _ _ _ => rfl) dX4_init_33 ?_
  replace hw := hw.2
  refine r_toph fun hv12 ehv12 => ?_
  replace hw := hw hv12 ehv12
  refine r_aload_n C dX4_init_36 0 rfl ?_
  refine r_bipush (v := 8) C dX4_init_37 (by decide) ?_
  refine r_newI C hw.1 hw.2.1 dX4_init_39 (gm1 (List.mem_of_getElem? (i := 133) rfl) rfl) ?_
  replace hw := hw.2.2
  refine r_topn fun hv13 rv14 ehv13 erv14 => ?_
  replace hw := hw hv13 rv14 ehv13 erv14
  refine r_putPF C ff_RX4_24_4 hnm hw.1 (fun _ _ _ => rfl) dX4_init_41 ?_
  replace hw := hw.2
  refine r_toph fun hv15 ehv15 => ?_
  replace hw := hw hv15 ehv15
  exact r_vret C hr dX4_init_44 hw
theorem dX10_init_0 : decode cX10_init 0 = .ok (.aload_n 0, 1) := by decide +kernel
theorem dX10_init_1 : decode cX10_init 1 = .ok (.invokespecial 3, 3) := by decide +kernel
theorem dX10_init_4 : decode cX10_init 4 = .ok (.aload_n 0, 1) := by decide +kernel
theorem dX10_init_5 : decode cX10_init 5 = .ok (.bipush 10, 2) := by decide +kernel
theorem dX10_init_7 : decode cX10_init 7 = .ok (.newarray .int, 2) := by decide +kernel
theorem dX10_init_9 : decode cX10_init 9 = .ok (.putfield 9, 3) := by decide +kernel
theorem dX10_init_12 : decode cX10_init 12 = .ok (.aload_n 0, 1) := by decide +kernel
theorem dX10_init_13 : decode cX10_init 13 = .ok (.bipush 10, 2) := by decide +kernel
theorem dX10_init_15 : decode cX10_init 15 = .ok (.newarray .int, 2) := by decide +kernel
theorem dX10_init_17 : decode cX10_init 17 = .ok (.putfield 15, 3) := by decide +kernel
theorem dX10_init_20 : decode cX10_init 20 = .ok (.aload_n 0, 1) := by decide +kernel
theorem dX10_init_21 : decode cX10_init 21 = .ok (.bipush 10, 2) := by decide +kernel
theorem dX10_init_23 : decode cX10_init 23 = .ok (.newarray .int, 2) := by decide +kernel
theorem dX10_init_25 : decode cX10_init 25 = .ok (.putfield 18, 3) := by decide +kernel
theorem dX10_init_28 : decode cX10_init 28 = .ok (.aload_n 0, 1) := by decide +kernel
theorem dX10_init_29 : decode cX10_init 29 = .ok (.bipush 10, 2) := by decide +kernel
theorem dX10_init_31 : decode cX10_init 31 = .ok (.newarray .int, 2) := by decide +kernel
theorem dX10_init_33 : decode cX10_init 33 = .ok (.putfield 21, 3) := by decide +kernel
theorem dX10_init_36 : decode cX10_init 36 = .ok (.return_, 1) := by decide +kernel
def wp_X10_init (h : AH) (a0 : Nat) (post : AH → Prop) : Prop := (¬ (10 : Int32) < 0) ∧ ((aN h < 601024 ∧ aS h + (10 : Int32).toNatClampNeg ≤ 7293034) ∧ (∀ (hv1 : AH) (rv2 : Nat), hv1 = hNew h 13 (10 : Int32).toNatClampNeg → rv2 = aN h → ((ob hv1 a0 9) ∧ (∀ hv3 : AH, hv3 = hP hv1 a0 1 rv2 → ((¬ (10 : Int32) < 0) ∧ ((aN hv3 < 601024 ∧ aS hv3 + (10 : Int32).toNatClampNeg ≤ 7293034) ∧ (∀ (hv4 : AH) (rv5 : Nat), hv4 = hNew hv3 13 (10 : Int32).toNatClampNeg → rv5 = aN hv3 → ((ob hv4 a0 9) ∧ (∀ hv6 : AH, hv6 = hP hv4 a0 2 rv5 → ((¬ (10 : Int32) < 0) ∧ ((aN hv6 < 601024 ∧ aS hv6 + (10 : Int32).toNatClampNeg ≤ 7293034) ∧ (∀ (hv7 : AH) (rv8 : Nat), hv7 = hNew hv6 13 (10 : Int32).toNatClampNeg → rv8 = aN hv6 → ((ob hv7 a0 9) ∧ (∀ hv9 : AH, hv9 = hP hv7 a0 3 rv8 → ((¬ (10 : Int32) < 0) ∧ ((aN hv9 < 601024 ∧ aS hv9 + (10 : Int32).toNatClampNeg ≤ 7293034) ∧ (∀ (hv10 : AH) (rv11 : Nat), hv10 = hNew hv9 13 (10 : Int32).toNatClampNeg → rv11 = aN hv9 → ((ob hv10 a0 9) ∧ (∀ hv12 : AH, hv12 = hP hv10 a0 4 rv11 → (post hv12))))))))))))))))))))
set_option maxRecDepth 100000 in
theorem c_X10_init (G : GG) (h : AH) (a0 : Nat) (post : AH → Prop) (hw : wp_X10_init h a0 post) : MC G yX10_init cX10_init 1 none 1 20 h [.ref (G.1 + a0)] (pV post) := by
  refine MC.of (lv := [(0, .ref (G.1 + a0))]) (by decide) (Nat.le_of_ble_eq_true rfl) rfl fun p l e R s m args below meth c C hr hnm => ?_
  unfold wp_X10_init at hw
  refine r_aload_n C dX10_init_0 0 rfl ?_
  refine r_objInit C (gm1 (List.mem_of_getElem? (i := 140) rfl) rfl) (gm1 (List.mem_of_getElem? (i := 32) rfl) rfl) (gm1 (List.mem_of_getElem? (i := 33) rfl) rfl) dX10_init_1 ⟨by decide, Nat.le_of_ble_eq_true rfl⟩ ?_
  refine r_aload_n C dX10_init_4 0 rfl ?_
  refine r_bipush (v := 10) C dX10_init_5 (by decide) ?_
  refine r_newI C hw.1 hw.2.1 dX10_init_7 (gm1 (List.mem_of_getElem? (i := 133) rfl) rfl) ?_
  replace hw := hw.2.2
  refine r_topn fun hv1 rv2 ehv1 erv2 => ?_
  replace hw := hw hv1 rv2 ehv1 erv2
  refine r_putPF C ff_RX10_9_9 hnm hw.1 (fun _ _ _ => rfl) dX10_init_9 ?_
  replace hw := hw.2
  refine r_toph fun hv3 ehv3 => ?_
  replace hw := hw hv3 ehv3
  refine r_aload_n C dX10_init_12 0 rfl ?_
  refine r_bipush (v := 10) C dX10_init_13 (by decide) ?_
  refine r_newI C hw.1 hw.2.1 dX10_init_15 (gm1 (List.mem_of_getElem? (i := 133) rfl) rfl) ?_
  replace hw := hw.2.2
  refine r_topn fun hv4 rv5 ehv4 erv5 => ?_
  replace hw := hw hv4 rv5 ehv4 erv5
  refine r_putPF C ff_RX10_15_9 hnm hw.1 (fun _ _ _ => rfl) dX10_init_17 ?_
  replace hw := hw.2
  refine r_toph fun hv6 ehv6 => ?_
  replace hw := hw hv6 ehv6
  refine r_aload_n C dX10_init_20 0 rfl ?_
  refine r_bipush (v := 10) C dX10_init_21 (by decide) ?_
  refine r_newI C hw.1 hw.2.1 dX10_init_23 (gm1 (List.mem_of_getElem? (i := 133) rfl) rfl) ?_
  replace hw := hw.2.2
  refine r_topn fun hv7 rv8 ehv7 erv8 => ?_
  replace hw := hw hv7 rv8 ehv7 erv8
  refine r_putPF C ff_RX10_18_9 hnm hw.1 (fun _ _ _ => rfl) dX10_init_25 ?_
  replace hw := hw.2
  refine r_toph fun hv9 ehv9 => ?_
  replace hw := hw hv9 ehv9
  refine r_aload_n C dX10_init_28 0 rfl ?_
  refine r_bipush (v := 10) C dX10_init_29 (by decide) ?_
  refine r_newI C hw.1 hw.2.1 dX10_init_31 (gm1 (List.mem_of_getElem? (i := 133) rfl) rfl) ?_
  replace hw := hw.2.2
  refine r_topn fun hv10 rv11 ehv10 erv11 => ?_
  replace hw := hw hv10 rv11 ehv10 erv11
  refine r_putPF C ff_RX10_21_9 hnm hw.1 (fun _ _ _ => rfl) dX10_init_33 ?_
  replace hw := hw.2
  refine r_toph fun hv12 ehv12 => ?_
  replace hw := hw hv12 ehv12
  exact r_vret C hr dX10_init_36 hw
theorem dJ7_fill_53178_0 : decode cJ7_fill_53178 0 = .ok (.iconst 0, 1) := by decide +kernel
theorem dJ7_fill_53178_1 : decode cJ7_fill_53178 1 = .ok (.istore_n 2, 1) := by decide +kernel
theorem dJ7_fill_53178_2 : decode cJ7_fill_53178 2 = .ok (.aload_n 0, 1) := by decide +kernel
theorem dJ7_fill_53178_3 : decode cJ7_fill_53178 3 = .ok (.arraylength, 1) := by decide +kernel
theorem dJ7_fill_53178_4 : decode cJ7_fill_53178 4 = .ok (.istore_n 3, 1) := by decide +kernel
theorem dJ7_fill_53178_5 : decode cJ7_fill_53178 5 = .ok (.iload_n 2, 1) := by decide +kernel
theorem dJ7_fill_53178_6 : decode cJ7_fill_53178 6 = .ok (.iload_n 3, 1) := by decide +kernel
theorem dJ7_fill_53178_7 : decode cJ7_fill_53178 7 = .ok (.if_icmp .ge 13, 3) := by decide +kernel
theorem dJ7_fill_53178_10 : decode cJ7_fill_53178 10 = .ok (.aload_n 0, 1) := by decide +kernel
theorem dJ7_fill_53178_11 : decode cJ7_fill_53178 11 = .ok (.iload_n 2, 1) := by decide +kernel
theorem dJ7_fill_53178_12 : decode cJ7_fill_53178 12 = .ok (.iload_n 1, 1) := by decide +kernel
theorem dJ7_fill_53178_13 : decode cJ7_fill_53178 13 = .ok (.iastore, 1) := by decide +kernel
theorem dJ7_fill_53178_14 : decode cJ7_fill_53178 14 = .ok (.iinc 2 1, 3) := by decide +kernel
theorem dJ7_fill_53178_17 : decode cJ7_fill_53178 17 = .ok (.goto (-12), 3) := by decide +kernel
theorem dJ7_fill_53178_20 : decode cJ7_fill_53178 20 = .ok (.return_, 1) := by decide +kernel
def wb_J7_fill_53178_5 (K5 : AH → Nat → Int32 → Int32 → Int32 → Prop) (h : AH) (al0 : Nat) (xl1 : Int32) (xl2 : Int32) (xl3 : Int32)  (post : AH → Prop) : Prop := (xl3 ≤ xl2 → (post h)) ∧ (¬ xl3 ≤ xl2 → ((ob h al0 13) ∧ ((vp_in xl2 (aL h al0)) ∧ (∀ hv1 : AH, hv1 = hI h al0 xl2.toNatClampNeg xl1 → (∀ iv2 : Int32, iv2 = xl2 + 1 → (K5 hv1 al0 xl1 iv2 xl3))))))
set_option maxRecDepth 100000 in
theorem tb_J7_fill_53178_5 {G : GG} {p : Program} {l : Launch} {e : Env} {R : Room} {s : State} {m : MethodId} {args : Array Value} {below : List Frame} {meth : Method} {c : Code} {n0 s0 : Nat} {post : AH → Prop} (C : Cx G p R s m args meth c 4 cJ7_fill_53178 RJ7 n0 s0 0 0) (hr : meth.sig.returnType = none) {K5 : AH → Nat → Int32 → Int32 → Int32 → Prop} (hK5 : ∀ (h : AH) (al0 : Nat) (xl1 : Int32) (xl2 : Int32) (xl3 : Int32), K5 h al0 xl1 xl2 xl3 → AW G p l e R s m args below meth c 4 (QM G (pV post) args s below n0 s0) 5 [(0, .ref (G.1 + al0)), (1, .int xl1), (2, .int xl2), (3, .int xl3)] [] h) {h : AH} {al0 : Nat} {xl1 : Int32} {xl2 : Int32} {xl3 : Int32}  (hw : wb_J7_fill_53178_5 K5 h al0 xl1 xl2 xl3 post) : AW G p l e R s m args below meth c 4 (QM G (pV post) args s below n0 s0) 5 [(0, .ref (G.1 + al0)), (1, .int xl1), (2, .int xl2), (3, .int xl3)] [] h := by
  unfold wb_J7_fill_53178_5 at hw
  refine r_iload_n C dJ7_fill_53178_5 2 rfl ?_
  refine r_iload_n C dJ7_fill_53178_6 3 rfl ?_
  refine r_icmp_ge C dJ7_fill_53178_7 20 (by decide) (fun hc => ?_) (fun hc => ?_)
  · replace hw := hw.1 hc
    exact r_vret C hr dJ7_fill_53178_20 hw
  · replace hw := hw.2 hc
    refine r_aload_n C dJ7_fill_53178_10 0 rfl ?_
    refine r_iload_n C dJ7_fill_53178_11 2 rfl ?_
    refine r_iload_n C dJ7_fill_53178_12 1 rfl ?_
    refine r_iastore C hw.1 hw.2.1 dJ7_fill_53178_13 ?_
    replace hw := hw.2.2
    refine r_toph fun hv1 ehv1 => ?_
    replace hw := hw hv1 ehv1
    obtain ⟨iv2, eiv2⟩ : ∃ q : Int32, q = xl2 + 1 := ⟨_, rfl⟩
    replace hw := hw iv2 eiv2
    refine r_iinc C dJ7_fill_53178_14 2 rfl (by rw [eiv2]; rfl) [(2, .int iv2), (0, .ref (G.1 + al0)), (1, .int xl1), (3, .int xl3)] (by decide) rfl ?_
    refine r_goto C dJ7_fill_53178_17 5 (by decide) ?_
    refine r_sub [1, 2, 0, 3] rfl ?_
    exact hK5 _ _ _ _ _ hw
def wl_J7_fill_53178_5  (post : AH → Prop) : Nat → AH → Nat → Int32 → Int32 → Int32 → Prop
  | 0 => fun _ _ _ _ _ => False
  | n + 1 => fun h al0 xl1 xl2 xl3 => wb_J7_fill_53178_5  (wl_J7_fill_53178_5  post n) h al0 xl1 xl2 xl3 post
theorem tl_J7_fill_53178_5 {G : GG} {p : Program} {l : Launch} {e : Env} {R : Room} {s : State} {m : MethodId} {args : Array Value} {below : List Frame} {meth : Method} {c : Code} {n0 s0 : Nat} {post : AH → Prop} (C : Cx G p R s m args meth c 4 cJ7_fill_53178 RJ7 n0 s0 0 0) (hr : meth.sig.returnType = none)   : ∀ (n : Nat) (h : AH) (al0 : Nat) (xl1 : Int32) (xl2 : Int32) (xl3 : Int32), wl_J7_fill_53178_5  post n h al0 xl1 xl2 xl3 → AW G p l e R s m args below meth c 4 (QM G (pV post) args s below n0 s0) 5 [(0, .ref (G.1 + al0)), (1, .int xl1), (2, .int xl2), (3, .int xl3)] [] h := by
  intro n
  induction n with
  | zero => intro h al0 xl1 xl2 xl3 hw; exact hw.elim
  | succ n ih => intro h al0 xl1 xl2 xl3 hw; exact tb_J7_fill_53178_5 C hr  ih hw
def wp_J7_fill_53178 (h : AH) (a0 : Nat) (x1 : Int32) (post : AH → Prop) : Prop := ((aK h a0 = 12 ∨ aK h a0 = 13 ∨ aK h a0 = 14) ∧ a0 < aN h) ∧ (∀ iv1 : Int32, iv1 = nI (aL h a0) → (∃ n, wl_J7_fill_53178_5  post n h a0 x1 0 iv1))
set_option maxRecDepth 100000 in
theorem c_J7_fill_53178 (G : GG) (h : AH) (a0 : Nat) (x1 : Int32) (post : AH → Prop) (hw : wp_J7_fill_53178 h a0 x1 post) : MC G yJ7_fill_53178 cJ7_fill_53178 4 none 0 0 h [.ref (G.1 + a0), .int x1] (pV post) := by
  refine MC.of (lv := [(0, .ref (G.1 + a0)), (1, .int x1)]) (by decide) (Nat.le_of_ble_eq_true rfl) rfl fun p l e R s m args below meth c C hr hnm => ?_
  unfold wp_J7_fill_53178 at hw
  refine r_iconst (v := 0) C dJ7_fill_53178_0 (by decide) ?_
  refine r_istore_n C dJ7_fill_53178_1 [(2, .int 0), (0, .ref (G.1 + a0)), (1, .int x1)] (by decide) rfl ?_
  refine r_aload_n C dJ7_fill_53178_2 1 rfl ?_
  refine r_alen C hw.1 dJ7_fill_53178_3 ?_
  replace hw := hw.2
  refine r_topi fun iv1 eiv1 => ?_
  replace hw := hw iv1 eiv1
  refine r_istore_n C dJ7_fill_53178_4 [(3, .int iv1), (2, .int 0), (0, .ref (G.1 + a0)), (1, .int x1)] (by decide) rfl ?_
  refine r_sub [2, 3, 1, 0] rfl ?_
  obtain ⟨n, hw⟩ := hw
  exact tl_J7_fill_53178_5 C hr  n _ _ _ _ _ hw
theorem dX1_init_0 : decode cX1_init 0 = .ok (.aload_n 0, 1) := by decide +kernel
theorem dX1_init_1 : decode cX1_init 1 = .ok (.invokespecial 3, 3) := by decide +kernel
theorem dX1_init_4 : decode cX1_init 4 = .ok (.aload_n 0, 1) := by decide +kernel
theorem dX1_init_5 : decode cX1_init 5 = .ok (.bipush 64, 2) := by decide +kernel
theorem dX1_init_7 : decode cX1_init 7 = .ok (.newarray .int, 2) := by decide +kernel
theorem dX1_init_9 : decode cX1_init 9 = .ok (.putfield 9, 3) := by decide +kernel
theorem dX1_init_12 : decode cX1_init 12 = .ok (.aload_n 0, 1) := by decide +kernel
theorem dX1_init_13 : decode cX1_init 13 = .ok (.bipush 10, 2) := by decide +kernel
theorem dX1_init_15 : decode cX1_init 15 = .ok (.newarray .long, 2) := by decide +kernel
theorem dX1_init_17 : decode cX1_init 17 = .ok (.putfield 15, 3) := by decide +kernel
theorem dX1_init_20 : decode cX1_init 20 = .ok (.aload_n 0, 1) := by decide +kernel
theorem dX1_init_21 : decode cX1_init 21 = .ok (.bipush 24, 2) := by decide +kernel
theorem dX1_init_23 : decode cX1_init 23 = .ok (.newarray .int, 2) := by decide +kernel
theorem dX1_init_25 : decode cX1_init 25 = .ok (.putfield 19, 3) := by decide +kernel
theorem dX1_init_28 : decode cX1_init 28 = .ok (.aload_n 0, 1) := by decide +kernel
theorem dX1_init_29 : decode cX1_init 29 = .ok (.bipush 8, 2) := by decide +kernel
theorem dX1_init_31 : decode cX1_init 31 = .ok (.newarray .int, 2) := by decide +kernel
theorem dX1_init_33 : decode cX1_init 33 = .ok (.putfield 22, 3) := by decide +kernel
theorem dX1_init_36 : decode cX1_init 36 = .ok (.aload_n 0, 1) := by decide +kernel
theorem dX1_init_37 : decode cX1_init 37 = .ok (.bipush 8, 2) := by decide +kernel
theorem dX1_init_39 : decode cX1_init 39 = .ok (.newarray .int, 2) := by decide +kernel
theorem dX1_init_41 : decode cX1_init 41 = .ok (.putfield 25, 3) := by decide +kernel
theorem dX1_init_44 : decode cX1_init 44 = .ok (.aload_n 0, 1) := by decide +kernel
theorem dX1_init_45 : decode cX1_init 45 = .ok (.bipush 8, 2) := by decide +kernel
theorem dX1_init_47 : decode cX1_init 47 = .ok (.newarray .int, 2) := by decide +kernel
theorem dX1_init_49 : decode cX1_init 49 = .ok (.putfield 28, 3) := by decide +kernel
theorem dX1_init_52 : decode cX1_init 52 = .ok (.aload_n 0, 1) := by decide +kernel
theorem dX1_init_53 : decode cX1_init 53 = .ok (.bipush 8, 2) := by decide +kernel
theorem dX1_init_55 : decode cX1_init 55 = .ok (.newarray .int, 2) := by decide +kernel
theorem dX1_init_57 : decode cX1_init 57 = .ok (.putfield 31, 3) := by decide +kernel
theorem dX1_init_60 : decode cX1_init 60 = .ok (.aload_n 0, 1) := by decide +kernel
theorem dX1_init_61 : decode cX1_init 61 = .ok (.bipush 8, 2) := by decide +kernel
theorem dX1_init_63 : decode cX1_init 63 = .ok (.newarray .int, 2) := by decide +kernel
theorem dX1_init_65 : decode cX1_init 65 = .ok (.putfield 34, 3) := by decide +kernel
theorem dX1_init_68 : decode cX1_init 68 = .ok (.aload_n 0, 1) := by decide +kernel
theorem dX1_init_69 : decode cX1_init 69 = .ok (.bipush 6, 2) := by decide +kernel
theorem dX1_init_71 : decode cX1_init 71 = .ok (.newarray .int, 2) := by decide +kernel
theorem dX1_init_73 : decode cX1_init 73 = .ok (.putfield 37, 3) := by decide +kernel
theorem dX1_init_76 : decode cX1_init 76 = .ok (.aload_n 0, 1) := by decide +kernel
theorem dX1_init_77 : decode cX1_init 77 = .ok (.new 40, 3) := by decide +kernel
theorem dX1_init_80 : decode cX1_init 80 = .ok (.dup, 1) := by decide +kernel
theorem dX1_init_81 : decode cX1_init 81 = .ok (.invokespecial 42, 3) := by decide +kernel
theorem dX1_init_84 : decode cX1_init 84 = .ok (.putfield 43, 3) := by decide +kernel
theorem dX1_init_87 : decode cX1_init 87 = .ok (.aload_n 0, 1) := by decide +kernel
theorem dX1_init_88 : decode cX1_init 88 = .ok (.new 47, 3) := by decide +kernel
theorem dX1_init_91 : decode cX1_init 91 = .ok (.dup, 1) := by decide +kernel
theorem dX1_init_92 : decode cX1_init 92 = .ok (.invokespecial 49, 3) := by decide +kernel
theorem dX1_init_95 : decode cX1_init 95 = .ok (.putfield 50, 3) := by decide +kernel
theorem dX1_init_98 : decode cX1_init 98 = .ok (.aload_n 0, 1) := by decide +kernel
theorem dX1_init_99 : decode cX1_init 99 = .ok (.getfield 19, 3) := by decide +kernel
theorem dX1_init_102 : decode cX1_init 102 = .ok (.iconst 5, 1) := by decide +kernel
theorem dX1_init_103 : decode cX1_init 103 = .ok (.invokestatic 54, 3) := by decide +kernel
theorem dX1_init_106 : decode cX1_init 106 = .ok (.return_, 1) := by decide +kernel
def wp_X1_init (h : AH) (a0 : Nat) (post : AH → Prop) : Prop := (¬ (64 : Int32) < 0) ∧ ((aN h < 601024 ∧ aS h + (64 : Int32).toNatClampNeg ≤ 7293034) ∧ (∀ (hv1 : AH) (rv2 : Nat), hv1 = hNew h 13 (64 : Int32).toNatClampNeg → rv2 = aN h → ((ob hv1 a0 1) ∧ (∀ hv3 : AH, hv3 = hP hv1 a0 2 rv2 → ((¬ (10 : Int32) < 0) ∧ ((aN hv3 < 601024 ∧ aS hv3 + (10 : Int32).toNatClampNeg ≤ 7293034) ∧ (∀ (hv4 : AH) (rv5 : Nat), hv4 = hNew hv3 14 (10 : Int32).toNatClampNeg → rv5 = aN hv3 → ((ob hv4 a0 1) ∧ (∀ hv6 : AH, hv6 = hP hv4 a0 3 rv5 → ((¬ (24 : Int32) < 0) ∧ ((aN hv6 < 601024 ∧ aS hv6 + (24 : Int32).toNatClampNeg ≤ 7293034) ∧ (∀ (hv7 : AH) (rv8 : Nat), hv7 = hNew hv6 13 (24 : Int32).toNatClampNeg → rv8 = aN hv6 → ((ob hv7 a0 1) ∧ (∀ hv9 : AH, hv9 = hP hv7 a0 4 rv8 → ((¬ (8 : Int32) < 0) ∧ ((aN hv9 < 601024 ∧ aS hv9 + (8 : Int32).toNatClampNeg ≤ 7293034) ∧ (∀ (hv10 : AH) (rv11 : Nat), hv10 = hNew hv9 13 (8 : Int32).toNatClampNeg → rv11 = aN hv9 → ((ob hv10 a0 1) ∧ (∀ hv12 : AH, hv12 = hP hv10 a0 6 rv11 → ((¬ (8 : Int32) < 0) ∧ ((aN hv12 < 601024 ∧ aS hv12 + (8 : Int32).toNatClampNeg ≤ 7293034) ∧ (∀ (hv13 : AH) (rv14 : Nat), hv13 = hNew hv12 13 (8 : Int32).toNatClampNeg → rv14 = aN hv12 → ((ob hv13 a0 1) ∧ (∀ hv15 : AH, hv15 = hP hv13 a0 7 rv14 → ((¬ (8 : Int32) < 0) ∧ ((aN hv15 < 601024 ∧ aS hv15 + (8 : Int32).toNatClampNeg ≤ 7293034) ∧ (∀ (hv16 : AH) (rv17 : Nat), hv16 = hNew hv15 13 (8 : Int32).toNatClampNeg → rv17 = aN hv15 → ((ob hv16 a0 1) ∧ (∀ hv18 : AH, hv18 = hP hv16 a0 8 rv17 → ((¬ (8 : Int32) < 0) ∧ ((aN hv18 < 601024 ∧ aS hv18 + (8 : Int32).toNatClampNeg ≤ 7293034) ∧ (∀ (hv19 : AH) (rv20 : Nat), hv19 = hNew hv18 13 (8 : Int32).toNatClampNeg → rv20 = aN hv18 → ((ob hv19 a0 1) ∧ (∀ hv21 : AH, hv21 = hP hv19 a0 9 rv20 → ((¬ (8 : Int32) < 0) ∧ ((aN hv21 < 601024 ∧ aS hv21 + (8 : Int32).toNatClampNeg ≤ 7293034) ∧ (∀ (hv22 : AH) (rv23 : Nat), hv22 = hNew hv21 13 (8 : Int32).toNatClampNeg → rv23 = aN hv21 → ((ob hv22 a0 1) ∧ (∀ hv24 : AH, hv24 = hP hv22 a0 10 rv23 → ((¬ (6 : Int32) < 0) ∧ ((aN hv24 < 601024 ∧ aS hv24 + (6 : Int32).toNatClampNeg ≤ 7293034) ∧ (∀ (hv25 : AH) (rv26 : Nat), hv25 = hNew hv24 13 (6 : Int32).toNatClampNeg → rv26 = aN hv24 → ((ob hv25 a0 1) ∧ (∀ hv27 : AH, hv27 = hP hv25 a0 12 rv26 → ((aN hv27 < 601024 ∧ aS hv27 + 6 ≤ 7293034) ∧ (∀ (hv28 : AH) (rv29 : Nat), hv28 = hNew hv27 4 6 → rv29 = aN hv27 → (wp_X4_init hv28 rv29  (fun hv30  => (ob hv30 a0 1) ∧ (∀ hv31 : AH, hv31 = hP hv30 a0 14 rv29 → ((aN hv31 < 601024 ∧ aS hv31 + 5 ≤ 7293034) ∧ (∀ (hv32 : AH) (rv33 : Nat), hv32 = hNew hv31 9 5 → rv33 = aN hv31 → (wp_X10_init hv32 rv33  (fun hv34  => (ob hv34 a0 1) ∧ (∀ hv35 : AH, hv35 = hP hv34 a0 15 rv33 → ((ob hv35 a0 1) ∧ (∃ rv36, aP hv35 a0 4 = some rv36 ∧ (wp_J7_fill_53178 hv35 rv36 5 (fun hv37  => post hv37))))))))))))))))))))))))))))))))))))))))))))))))))))))))))
set_option maxRecDepth 100000 in
theorem c_X1_init (G : GG) (h : AH) (a0 : Nat) (post : AH → Prop) (hw : wp_X1_init h a0 post) : MC G yX1_init cX1_init 1 none 2 40 h [.ref (G.1 + a0)] (pV post) := by
  refine MC.of (lv := [(0, .ref (G.1 + a0))]) (by decide) (Nat.le_of_ble_eq_true rfl) rfl fun p l e R s m args below meth c C hr hnm => ?_
  unfold wp_X1_init at hw
  refine r_aload_n C dX1_init_0 0 rfl ?_
  refine r_objInit C (gm1 (List.mem_of_getElem? (i := 97) rfl) rfl) (gm1 (List.mem_of_getElem? (i := 32) rfl) rfl) (gm1 (List.mem_of_getElem? (i := 33) rfl) rfl) dX1_init_1 ⟨by decide, Nat.le_of_ble_eq_true rfl⟩ ?_
  refine r_aload_n C dX1_init_4 0 rfl ?_
  refine r_bipush (v := 64) C dX1_init_5 (by decide) ?_
  refine r_newI C hw.1 hw.2.1 dX1_init_7 (gm1 (List.mem_of_getElem? (i := 133) rfl) rfl) ?_
  replace hw := hw.2.2
  refine r_topn fun hv1 rv2 ehv1 erv2 => ?_
  replace hw := hw hv1 rv2 ehv1 erv2
  refine r_putPF C ff_RX1_9_1 hnm hw.1 (fun _ _ _ => rfl) dX1_init_9 ?_
  replace hw := hw.2
  refine r_toph fun hv3 ehv3 => ?_
  replace hw := hw hv3 ehv3
  refine r_aload_n C dX1_init_12 0 rfl ?_
  refine r_bipush (v := 10) C dX1_init_13 (by decide) ?_
  refine r_newJ C hw.1 hw.2.1 dX1_init_15 (gm1 (List.mem_of_getElem? (i := 134) rfl) rfl) ?_
  replace hw := hw.2.2
  refine r_topn fun hv4 rv5 ehv4 erv5 => ?_
  replace hw := hw hv4 rv5 ehv4 erv5
  refine r_putPF C ff_RX1_15_1 hnm hw.1 (fun _ _ _ => rfl) dX1_init_17 ?_
  replace hw := hw.2
  refine r_toph fun hv6 ehv6 => ?_
  replace hw := hw hv6 ehv6
  refine r_aload_n C dX1_init_20 0 rfl ?_
  refine r_bipush (v := 24) C dX1_init_21 (by decide) ?_
  refine r_newI C hw.1 hw.2.1 dX1_init_23 (gm1 (List.mem_of_getElem? (i := 133) rfl) rfl) ?_
  replace hw := hw.2.2
  refine r_topn fun hv7 rv8 ehv7 erv8 => ?_
  replace hw := hw hv7 rv8 ehv7 erv8
  refine r_putPF C ff_RX1_19_1 hnm hw.1 (fun _ _ _ => rfl) dX1_init_25 ?_
  replace hw := hw.2
  refine r_toph fun hv9 ehv9 => ?_
  replace hw := hw hv9 ehv9
  refine r_aload_n C dX1_init_28 0 rfl ?_
  refine r_bipush (v := 8) C dX1_init_29 (by decide) ?_
  refine r_newI C hw.1 hw.2.1 dX1_init_31 (gm1 (List.mem_of_getElem? (i := 133) rfl) rfl) ?_
  replace hw := hw.2.2
  refine r_topn fun hv10 rv11 ehv10 erv11 => ?_
  replace hw := hw hv10 rv11 ehv10 erv11
  refine r_putPF C ff_RX1_22_1 hnm hw.1 (fun _ _ _ => rfl) dX1_init_33 ?_
  replace hw := hw.2
  refine r_toph fun hv12 ehv12 => ?_
  replace hw := hw hv12 ehv12
  refine r_aload_n C dX1_init_36 0 rfl ?_
  refine r_bipush (v := 8) C dX1_init_37 (by decide) ?_
  refine r_newI C hw.1 hw.2.1 dX1_init_39 (gm1 (List.mem_of_getElem? (i := 133) rfl) rfl) ?_
  replace hw := hw.2.2
  refine r_topn fun hv13 rv14 ehv13 erv14 => ?_
  replace hw := hw hv13 rv14 ehv13 erv14
  refine r_putPF C ff_RX1_25_1 hnm hw.1 (fun _ _ _ => rfl) dX1_init_41 ?_
  replace hw := hw.2
  refine r_toph fun hv15 ehv15 => ?_
  replace hw := hw hv15 ehv15
  refine r_aload_n C dX1_init_44 0 rfl ?_
  refine r_bipush (v := 8) C dX1_init_45 (by decide) ?_
  refine r_newI C hw.1 hw.2.1 dX1_init_47 (gm1 (List.mem_of_getElem? (i := 133) rfl) rfl) ?_
  replace hw := hw.2.2
  refine r_topn fun hv16 rv17 ehv16 erv17 => ?_
  replace hw := hw hv16 rv17 ehv16 erv17
  refine r_putPF C ff_RX1_28_1 hnm hw.1 (fun _ _ _ => rfl) dX1_init_49 ?_
  replace hw := hw.2
  refine r_toph fun hv18 ehv18 => ?_
  replace hw := hw hv18 ehv18
  refine r_aload_n C dX1_init_52 0 rfl ?_
  refine r_bipush (v := 8) C dX1_init_53 (by decide) ?_
  refine r_newI C hw.1 hw.2.1 dX1_init_55 (gm1 (List.mem_of_getElem? (i := 133) rfl) rfl) ?_
  replace hw := hw.2.2
  refine r_topn fun hv19 rv20 ehv19 erv20 => ?_
  replace hw := hw hv19 rv20 ehv19 erv20
  refine r_putPF C ff_RX1_31_1 hnm hw.1 (fun _ _ _ => rfl) dX1_init_57 ?_
  replace hw := hw.2
  refine r_toph fun hv21 ehv21 => ?_
  replace hw := hw hv21 ehv21
  refine r_aload_n C dX1_init_60 0 rfl ?_
  refine r_bipush (v := 8) C dX1_init_61 (by decide) ?_
  refine r_newI C hw.1 hw.2.1 dX1_init_63 (gm1 (List.mem_of_getElem? (i := 133) rfl) rfl) ?_
  replace hw := hw.2.2
  refine r_topn fun hv22 rv23 ehv22 erv23 => ?_
  replace hw := hw hv22 rv23 ehv22 erv23
  refine r_putPF C ff_RX1_34_1 hnm hw.1 (fun _ _ _ => rfl) dX1_init_65 ?_
  replace hw := hw.2
  refine r_toph fun hv24 ehv24 => ?_
  replace hw := hw hv24 ehv24
  refine r_aload_n C dX1_init_68 0 rfl ?_
  refine r_bipush (v := 6) C dX1_init_69 (by decide) ?_
  refine r_newI C hw.1 hw.2.1 dX1_init_71 (gm1 (List.mem_of_getElem? (i := 133) rfl) rfl) ?_
  replace hw := hw.2.2
  refine r_topn fun hv25 rv26 ehv25 erv26 => ?_
  replace hw := hw hv25 rv26 ehv25 erv26
  refine r_putPF C ff_RX1_37_1 hnm hw.1 (fun _ _ _ => rfl) dX1_init_73 ?_
  replace hw := hw.2
  refine r_toph fun hv27 ehv27 => ?_
  replace hw := hw hv27 ehv27
  refine r_aload_n C dX1_init_76 0 rfl ?_
  refine r_new C (ci := 4) nl_RX1_40 hw.1 dX1_init_77 ?_
  replace hw := hw.2
  refine r_topn fun hv28 rv29 ehv28 erv29 => ?_
  replace hw := hw hv28 rv29 ehv28 erv29
  refine r_dup C dX1_init_80 rfl ?_
  refine r_callIN C (As := []) (rest := [.ref (G.1 + rv29), .ref (G.1 + a0)]) (c_X4_init G hv28 rv29  _ hw) yl_X4_init (List.mem_of_getElem? (i := 1) rfl) (gm1 (List.mem_of_getElem? (i := 101) rfl) rfl) rfl (by decide) rfl (Nat.le_of_ble_eq_true rfl) dX1_init_81 rfl (kV fun hv30  hw => ?_)
  refine r_putPF C ff_RX1_43_1 hnm hw.1 (fun _ _ _ => rfl) dX1_init_84 ?_
  replace hw := hw.2
  refine r_toph fun hv31 ehv31 => ?_
  replace hw := hw hv31 ehv31
  refine r_aload_n C dX1_init_87 0 rfl ?_
  refine r_new C (ci := 9) nl_RX1_47 hw.1 dX1_init_88 ?_
  replace hw := hw.2
  refine r_topn fun hv32 rv33 ehv32 erv33 => ?_
  replace hw := hw hv32 rv33 ehv32 erv33
  refine r_dup C dX1_init_91 rfl ?_
  refine r_callIN C (As := []) (rest := [.ref (G.1 + rv33), .ref (G.1 + a0)]) (c_X10_init G hv32 rv33  _ hw) yl_X10_init (List.mem_of_getElem? (i := 2) rfl) (gm1 (List.mem_of_getElem? (i := 138) rfl) rfl) rfl (by decide) rfl (Nat.le_of_ble_eq_true rfl) dX1_init_92 rfl (kV fun hv34  hw => ?_)
  refine r_putPF C ff_RX1_50_1 hnm hw.1 (fun _ _ _ => rfl) dX1_init_95 ?_
  replace hw := hw.2
  refine r_toph fun hv35 ehv35 => ?_
  replace hw := hw hv35 ehv35
  refine r_aload_n C dX1_init_98 0 rfl ?_
  have hob := hw.1
  obtain ⟨rv36, hp, hw⟩ := hw.2
  refine r_getP C fl_RX1_19_1 hob hp (fun _ _ _ => rfl) dX1_init_99 ?_
  refine r_iconst (v := 5) C dX1_init_102 (by decide) ?_
  refine r_callS C (As := [.ref (G.1 + rv36), .int 5]) (rest := []) (c_J7_fill_53178 G hv35 rv36 5 _ hw) yl_J7_fill_53178 (gm1 (List.mem_of_getElem? (i := 161) rfl) rfl) (gm1 (List.mem_of_getElem? (i := 162) rfl) rfl) (by decide) rfl (Nat.le_of_ble_eq_true rfl) dX1_init_103 rfl (kV fun hv37  hw => ?_)
  exact r_vret C hr dX1_init_106 hw
theorem dX4_empty_0 : decode cX4_empty 0 = .ok (.aload_n 0, 1) := by decide +kernel
theorem dX4_empty_1 : decode cX4_empty 1 = .ok (.iconst 0, 1) := by decide +kernel
theorem dX4_empty_2 : decode cX4_empty 2 = .ok (.putfield 27, 3) := by decide +kernel
theorem dX4_empty_5 : decode cX4_empty 5 = .ok (.aload_n 0, 1) := by decide +kernel
theorem dX4_empty_6 : decode cX4_empty 6 = .ok (.getfield 24, 3) := by decide +kernel
theorem dX4_empty_9 : decode cX4_empty 9 = .ok (.iconst 0, 1) := by decide +kernel
theorem dX4_empty_10 : decode cX4_empty 10 = .ok (.invokestatic 31, 3) := by decide +kernel
theorem dX4_empty_13 : decode cX4_empty 13 = .ok (.return_, 1) := by decide +kernel
def wp_X4_empty (h : AH) (a0 : Nat) (post : AH → Prop) : Prop := (ob h a0 4) ∧ (∀ hv1 : AH, hv1 = hI h a0 0 0 → ((ob hv1 a0 4) ∧ (∃ rv2, aP hv1 a0 5 = some rv2 ∧ (wp_J7_fill_53178 hv1 rv2 0 (fun hv3  => post hv3)))))
set_option maxRecDepth 100000 in
theorem c_X4_empty (G : GG) (h : AH) (a0 : Nat) (post : AH → Prop) (hw : wp_X4_empty h a0 post) : MC G yX4_empty cX4_empty 1 none 1 23 h [.ref (G.1 + a0)] (pV post) := by
  refine MC.of (lv := [(0, .ref (G.1 + a0))]) (by decide) (Nat.le_of_ble_eq_true rfl) rfl fun p l e R s m args below meth c C hr hnm => ?_
  unfold wp_X4_empty at hw
  refine r_aload_n C dX4_empty_0 0 rfl ?_
  refine r_iconst (v := 0) C dX4_empty_1 (by decide) ?_
  refine r_putI C fp_RX4_27_4 hw.1 rfl dX4_empty_2 ?_
  replace hw := hw.2
  refine r_toph fun hv1 ehv1 => ?_
  replace hw := hw hv1 ehv1
  refine r_aload_n C dX4_empty_5 0 rfl ?_
  have hob := hw.1
  obtain ⟨rv2, hp, hw⟩ := hw.2
  refine r_getP C fl_RX4_24_4 hob hp (fun _ _ _ => rfl) dX4_empty_6 ?_
  refine r_iconst (v := 0) C dX4_empty_9 (by decide) ?_
  refine r_callS C (As := [.ref (G.1 + rv2), .int 0]) (rest := []) (c_J7_fill_53178 G hv1 rv2 0 _ hw) yl_J7_fill_53178 (gm3 (List.mem_of_getElem? (i := 135) rfl) rfl) (gm1 (List.mem_of_getElem? (i := 162) rfl) rfl) (by decide) rfl (Nat.le_of_ble_eq_true rfl) dX4_empty_10 rfl (kV fun hv3  hw => ?_)
  exact r_vret C hr dX4_empty_13 hw
theorem dX1_empty_0 : decode cX1_empty 0 = .ok (.aload_n 0, 1) := by decide +kernel
theorem dX1_empty_1 : decode cX1_empty 1 = .ok (.iconst 0, 1) := by decide +kernel
theorem dX1_empty_2 : decode cX1_empty 2 = .ok (.putfield 60, 3) := by decide +kernel
theorem dX1_empty_5 : decode cX1_empty 5 = .ok (.aload_n 0, 1) := by decide +kernel
theorem dX1_empty_6 : decode cX1_empty 6 = .ok (.iconst 0, 1) := by decide +kernel
theorem dX1_empty_7 : decode cX1_empty 7 = .ok (.putfield 64, 3) := by decide +kernel
theorem dX1_empty_10 : decode cX1_empty 10 = .ok (.aload_n 0, 1) := by decide +kernel
theorem dX1_empty_11 : decode cX1_empty 11 = .ok (.getfield 15, 3) := by decide +kernel
theorem dX1_empty_14 : decode cX1_empty 14 = .ok (.lconst 0, 1) := by decide +kernel
theorem dX1_empty_15 : decode cX1_empty 15 = .ok (.invokestatic 67, 3) := by decide +kernel
theorem dX1_empty_18 : decode cX1_empty 18 = .ok (.aload_n 0, 1) := by decide +kernel
theorem dX1_empty_19 : decode cX1_empty 19 = .ok (.getfield 19, 3) := by decide +kernel
theorem dX1_empty_22 : decode cX1_empty 22 = .ok (.iconst 5, 1) := by decide +kernel
theorem dX1_empty_23 : decode cX1_empty 23 = .ok (.invokestatic 54, 3) := by decide +kernel
theorem dX1_empty_26 : decode cX1_empty 26 = .ok (.aload_n 0, 1) := by decide +kernel
theorem dX1_empty_27 : decode cX1_empty 27 = .ok (.iconst 0, 1) := by decide +kernel
theorem dX1_empty_28 : decode cX1_empty 28 = .ok (.putfield 70, 3) := by decide +kernel
theorem dX1_empty_31 : decode cX1_empty 31 = .ok (.aload_n 0, 1) := by decide +kernel
theorem dX1_empty_32 : decode cX1_empty 32 = .ok (.iconst 0, 1) := by decide +kernel
theorem dX1_empty_33 : decode cX1_empty 33 = .ok (.putfield 73, 3) := by decide +kernel
theorem dX1_empty_36 : decode cX1_empty 36 = .ok (.aload_n 0, 1) := by decide +kernel
theorem dX1_empty_37 : decode cX1_empty 37 = .ok (.lconst 0, 1) := by decide +kernel
theorem dX1_empty_38 : decode cX1_empty 38 = .ok (.putfield 76, 3) := by decide +kernel
theorem dX1_empty_41 : decode cX1_empty 41 = .ok (.aload_n 0, 1) := by decide +kernel
theorem dX1_empty_42 : decode cX1_empty 42 = .ok (.getfield 43, 3) := by decide +kernel
theorem dX1_empty_45 : decode cX1_empty 45 = .ok (.invokevirtual 80, 3) := by decide +kernel
theorem dX1_empty_48 : decode cX1_empty 48 = .ok (.aload_n 0, 1) := by decide +kernel
theorem dX1_empty_49 : decode cX1_empty 49 = .ok (.getfield 50, 3) := by decide +kernel
theorem dX1_empty_52 : decode cX1_empty 52 = .ok (.iconst 0, 1) := by decide +kernel
theorem dX1_empty_53 : decode cX1_empty 53 = .ok (.putfield 83, 3) := by decide +kernel
theorem dX1_empty_56 : decode cX1_empty 56 = .ok (.return_, 1) := by decide +kernel
def wp_X1_empty (h : AH) (a0 : Nat) (post : AH → Prop) : Prop := (ob h a0 1) ∧ (∀ hv1 : AH, hv1 = hI h a0 0 0 → ((ob hv1 a0 1) ∧ (∀ hv2 : AH, hv2 = hI hv1 a0 1 0 → ((ob hv2 a0 1) ∧ (∃ rv3, aP hv2 a0 3 = some rv3 ∧ (wp_J7_fill_d0a16 hv2 rv3 0 (fun hv4  => (ob hv4 a0 1) ∧ (∃ rv5, aP hv4 a0 4 = some rv5 ∧ (wp_J7_fill_53178 hv4 rv5 5 (fun hv6  => (ob hv6 a0 1) ∧ (∀ hv7 : AH, hv7 = hI hv6 a0 5 0 → ((ob hv7 a0 1) ∧ (∀ hv8 : AH, hv8 = hI hv7 a0 11 0 → ((ob hv8 a0 1) ∧ (∀ hv9 : AH, hv9 = hJ hv8 a0 13 0 → ((ob hv9 a0 1) ∧ (∃ rv10, aP hv9 a0 14 = some rv10 ∧ ((ob hv9 rv10 4) ∧ wp_X4_empty hv9 rv10  (fun hv11  => (ob hv11 a0 1) ∧ (∃ rv12, aP hv11 a0 15 = some rv12 ∧ ((ob hv11 rv12 9) ∧ (∀ hv13 : AH, hv13 = hI hv11 rv12 0 0 → (post hv13)))))))))))))))))))))))
set_option maxRecDepth 100000 in
theorem c_X1_empty (G : GG) (h : AH) (a0 : Nat) (post : AH → Prop) (hw : wp_X1_empty h a0 post) : MC G yX1_empty cX1_empty 1 none 2 43 h [.ref (G.1 + a0)] (pV post) := by
  refine MC.of (lv := [(0, .ref (G.1 + a0))]) (by decide) (Nat.le_of_ble_eq_true rfl) rfl fun p l e R s m args below meth c C hr hnm => ?_
  unfold wp_X1_empty at hw
  refine r_aload_n C dX1_empty_0 0 rfl ?_
  refine r_iconst (v := 0) C dX1_empty_1 (by decide) ?_
  refine r_putI C fp_RX1_60_1 hw.1 rfl dX1_empty_2 ?_
  replace hw := hw.2
  refine r_toph fun hv1 ehv1 => ?_
  replace hw := hw hv1 ehv1
  refine r_aload_n C dX1_empty_5 0 rfl ?_
  refine r_iconst (v := 0) C dX1_empty_6 (by decide) ?_
  refine r_putI C fp_RX1_64_1 hw.1 rfl dX1_empty_7 ?_
  replace hw := hw.2
  refine r_toph fun hv2 ehv2 => ?_
  replace hw := hw hv2 ehv2
  refine r_aload_n C dX1_empty_10 0 rfl ?_
  have hob := hw.1
  obtain ⟨rv3, hp, hw⟩ := hw.2
  refine r_getP C fl_RX1_15_1 hob hp (fun _ _ _ => rfl) dX1_empty_11 ?_
  refine r_lconst (v := 0) C dX1_empty_14 (by decide) ?_
  refine r_callS C (As := [.ref (G.1 + rv3), .long 0]) (rest := []) (c_J7_fill_d0a16 G hv2 rv3 0 _ hw) yl_J7_fill_d0a16 (gm3 (List.mem_of_getElem? (i := 128) rfl) rfl) (gm3 (List.mem_of_getElem? (i := 129) rfl) rfl) (by decide) rfl (Nat.le_of_ble_eq_true rfl) dX1_empty_15 rfl (kV fun hv4  hw => ?_)
  refine r_aload_n C dX1_empty_18 0 rfl ?_
  have hob := hw.1
  obtain ⟨rv5, hp, hw⟩ := hw.2
  refine r_getP C fl_RX1_19_1 hob hp (fun _ _ _ => rfl) dX1_empty_19 ?_
  refine r_iconst (v := 5) C dX1_empty_22 (by decide) ?_
  refine r_callS C (As := [.ref (G.1 + rv5), .int 5]) (rest := []) (c_J7_fill_53178 G hv4 rv5 5 _ hw) yl_J7_fill_53178 (gm1 (List.mem_of_getElem? (i := 161) rfl) rfl) (gm1 (List.mem_of_getElem? (i := 162) rfl) rfl) (by decide) rfl (Nat.le_of_ble_eq_true rfl) dX1_empty_23 rfl (kV fun hv6  hw => ?_)
  refine r_aload_n C dX1_empty_26 0 rfl ?_
  refine r_iconst (v := 0) C dX1_empty_27 (by decide) ?_
  refine r_putI C fp_RX1_70_1 hw.1 rfl dX1_empty_28 ?_
  replace hw := hw.2
  refine r_toph fun hv7 ehv7 => ?_
  replace hw := hw hv7 ehv7
  refine r_aload_n C dX1_empty_31 0 rfl ?_
  refine r_iconst (v := 0) C dX1_empty_32 (by decide) ?_
  refine r_putI C fp_RX1_73_1 hw.1 rfl dX1_empty_33 ?_
  replace hw := hw.2
  refine r_toph fun hv8 ehv8 => ?_
  replace hw := hw hv8 ehv8
  refine r_aload_n C dX1_empty_36 0 rfl ?_
  refine r_lconst (v := 0) C dX1_empty_37 (by decide) ?_
  refine r_putJ C fp_RX1_76_1 hw.1 rfl dX1_empty_38 ?_
  replace hw := hw.2
  refine r_toph fun hv9 ehv9 => ?_
  replace hw := hw hv9 ehv9
  refine r_aload_n C dX1_empty_41 0 rfl ?_
  have hob := hw.1
  obtain ⟨rv10, hp, hw⟩ := hw.2
  refine r_getP C fl_RX1_43_1 hob hp (fun _ _ _ => rfl) dX1_empty_42 ?_
  have hob := hw.1
  replace hw := hw.2
  refine r_callV C (As := []) (rest := []) (c_X4_empty G hv9 rv10  _ hw) yl_X4_empty (gm3 (List.mem_of_getElem? (i := 131) rfl) rfl) (gm3 (List.mem_of_getElem? (i := 132) rfl) rfl) (ci := 4) rfl (by decide) (gm3 (List.mem_of_getElem? (i := 133) rfl) rfl) hob (by decide) rfl (Nat.le_of_ble_eq_true rfl) dX1_empty_45 rfl (kV fun hv11  hw => ?_)
  refine r_aload_n C dX1_empty_48 0 rfl ?_
  have hob := hw.1
  obtain ⟨rv12, hp, hw⟩ := hw.2
  refine r_getP C fl_RX1_50_1 hob hp (fun _ _ _ => rfl) dX1_empty_49 ?_
  refine r_iconst (v := 0) C dX1_empty_52 (by decide) ?_
  refine r_putI C fp_RX1_83_9 hw.1 rfl dX1_empty_53 ?_
  replace hw := hw.2
  refine r_toph fun hv13 ehv13 => ?_
  replace hw := hw hv13 ehv13
  exact r_vret C hr dX1_empty_56 hw
theorem dX4_copy_0 : decode cX4_copy 0 = .ok (.aload_n 0, 1) := by decide +kernel
theorem dX4_copy_1 : decode cX4_copy 1 = .ok (.aload_n 1, 1) := by decide +kernel
theorem dX4_copy_2 : decode cX4_copy 2 = .ok (.getfield 27, 3) := by decide +kernel
theorem dX4_copy_5 : decode cX4_copy 5 = .ok (.putfield 27, 3) := by decide +kernel
theorem dX4_copy_8 : decode cX4_copy 8 = .ok (.aload_n 1, 1) := by decide +kernel
theorem dX4_copy_9 : decode cX4_copy 9 = .ok (.getfield 9, 3) := by decide +kernel
theorem dX4_copy_12 : decode cX4_copy 12 = .ok (.iconst 0, 1) := by decide +kernel
theorem dX4_copy_13 : decode cX4_copy 13 = .ok (.aload_n 0, 1) := by decide +kernel
theorem dX4_copy_14 : decode cX4_copy 14 = .ok (.getfield 9, 3) := by decide +kernel
theorem dX4_copy_17 : decode cX4_copy 17 = .ok (.iconst 0, 1) := by decide +kernel
theorem dX4_copy_18 : decode cX4_copy 18 = .ok (.bipush 8, 2) := by decide +kernel
theorem dX4_copy_20 : decode cX4_copy 20 = .ok (.invokestatic 37, 3) := by decide +kernel
theorem dX4_copy_23 : decode cX4_copy 23 = .ok (.aload_n 1, 1) := by decide +kernel
theorem dX4_copy_24 : decode cX4_copy 24 = .ok (.getfield 15, 3) := by decide +kernel
theorem dX4_copy_27 : decode cX4_copy 27 = .ok (.iconst 0, 1) := by decide +kernel
theorem dX4_copy_28 : decode cX4_copy 28 = .ok (.aload_n 0, 1) := by decide +kernel
theorem dX4_copy_29 : decode cX4_copy 29 = .ok (.getfield 15, 3) := by decide +kernel
theorem dX4_copy_32 : decode cX4_copy 32 = .ok (.iconst 0, 1) := by decide +kernel
theorem dX4_copy_33 : decode cX4_copy 33 = .ok (.bipush 8, 2) := by decide +kernel
theorem dX4_copy_35 : decode cX4_copy 35 = .ok (.invokestatic 37, 3) := by decide +kernel
theorem dX4_copy_38 : decode cX4_copy 38 = .ok (.aload_n 1, 1) := by decide +kernel
theorem dX4_copy_39 : decode cX4_copy 39 = .ok (.getfield 18, 3) := by decide +kernel
theorem dX4_copy_42 : decode cX4_copy 42 = .ok (.iconst 0, 1) := by decide +kernel
theorem dX4_copy_43 : decode cX4_copy 43 = .ok (.aload_n 0, 1) := by decide +kernel
theorem dX4_copy_44 : decode cX4_copy 44 = .ok (.getfield 18, 3) := by decide +kernel
theorem dX4_copy_47 : decode cX4_copy 47 = .ok (.iconst 0, 1) := by decide +kernel
theorem dX4_copy_48 : decode cX4_copy 48 = .ok (.bipush 8, 2) := by decide +kernel
theorem dX4_copy_50 : decode cX4_copy 50 = .ok (.invokestatic 37, 3) := by decide +kernel
theorem dX4_copy_53 : decode cX4_copy 53 = .ok (.aload_n 1, 1) := by decide +kernel
theorem dX4_copy_54 : decode cX4_copy 54 = .ok (.getfield 21, 3) := by decide +kernel
theorem dX4_copy_57 : decode cX4_copy 57 = .ok (.iconst 0, 1) := by decide +kernel
theorem dX4_copy_58 : decode cX4_copy 58 = .ok (.aload_n 0, 1) := by decide +kernel
theorem dX4_copy_59 : decode cX4_copy 59 = .ok (.getfield 21, 3) := by decide +kernel
theorem dX4_copy_62 : decode cX4_copy 62 = .ok (.iconst 0, 1) := by decide +kernel
theorem dX4_copy_63 : decode cX4_copy 63 = .ok (.bipush 8, 2) := by decide +kernel
theorem dX4_copy_65 : decode cX4_copy 65 = .ok (.invokestatic 37, 3) := by decide +kernel
theorem dX4_copy_68 : decode cX4_copy 68 = .ok (.aload_n 1, 1) := by decide +kernel
theorem dX4_copy_69 : decode cX4_copy 69 = .ok (.getfield 24, 3) := by decide +kernel
theorem dX4_copy_72 : decode cX4_copy 72 = .ok (.iconst 0, 1) := by decide +kernel
theorem dX4_copy_73 : decode cX4_copy 73 = .ok (.aload_n 0, 1) := by decide +kernel
theorem dX4_copy_74 : decode cX4_copy 74 = .ok (.getfield 24, 3) := by decide +kernel
theorem dX4_copy_77 : decode cX4_copy 77 = .ok (.iconst 0, 1) := by decide +kernel
theorem dX4_copy_78 : decode cX4_copy 78 = .ok (.bipush 8, 2) := by decide +kernel
theorem dX4_copy_80 : decode cX4_copy 80 = .ok (.invokestatic 37, 3) := by decide +kernel
theorem dX4_copy_83 : decode cX4_copy 83 = .ok (.return_, 1) := by decide +kernel
def wp_X4_copy (h : AH) (a0 : Nat) (a1 : Nat) (post : AH → Prop) : Prop := (ob h a1 4) ∧ ((ob h a0 4) ∧ (∀ hv1 : AH, hv1 = hI h a0 0 (aI h a1 0) → ((ob hv1 a1 4) ∧ (∃ rv2, aP hv1 a1 1 = some rv2 ∧ ((ob hv1 a0 4) ∧ (∃ rv3, aP hv1 a0 1 = some rv3 ∧ ((ob hv1 rv2 13) ∧ ((ob hv1 rv3 13) ∧ ((¬ (0 : Int32) < 0) ∧ ((¬ (0 : Int32) < 0) ∧ ((¬ (8 : Int32) < 0) ∧ (((0 : Int32).toNatClampNeg + (8 : Int32).toNatClampNeg ≤ aL hv1 rv2) ∧ (((0 : Int32).toNatClampNeg + (8 : Int32).toNatClampNeg ≤ aL hv1 rv3) ∧ (∀ hv4 : AH, hv4 = hRI hv1 rv3 (va_cpy (aI hv1 rv2) (aI hv1 rv3) (0 : Int32).toNatClampNeg (0 : Int32).toNatClampNeg (8 : Int32).toNatClampNeg) → ((ob hv4 a1 4) ∧ (∃ rv5, aP hv4 a1 2 = some rv5 ∧ ((ob hv4 a0 4) ∧ (∃ rv6, aP hv4 a0 2 = some rv6 ∧ ((ob hv4 rv5 13) ∧ ((ob hv4 rv6 13) ∧ ((¬ (0 : Int32) < 0) ∧ ((¬ (0 : Int32) < 0) ∧ ((¬ (8 : Int32) < 0) ∧ (((0 : Int32).toNatClampNeg + (8 : Int32).toNatClampNeg ≤ aL hv4 rv5) ∧ (((0 : Int32).toNatClampNeg + (8 : Int32).toNatClampNeg ≤ aL hv4 rv6) ∧ (∀ hv7 : AH, hv7 = hRI hv4 rv6 (va_cpy (aI hv4 rv5) (aI hv4 rv6) (0 : Int32).toNatClampNeg (0 : Int32).toNatClampNeg (8 : Int32).toNatClampNeg) → ((ob hv7 a1 4) ∧ (∃ rv8, aP hv7 a1 3 = some rv8 ∧ ((ob hv7 a0 4) ∧ (∃ rv9, aP hv7 a0 3 = some rv9 ∧ ((ob hv7 rv8 13) ∧ ((ob hv7 rv9 13) ∧ ((¬ (0 : Int32) < 0) ∧ ((¬ (0 : Int32) < 0) ∧ ((¬ (8 : Int32) < 0) ∧ (((0 : Int32).toNatClampNeg + (8 : Int32).toNatClampNeg ≤ aL hv7 rv8) ∧ (((0 : Int32).toNatClampNeg + (8 : Int32).toNatClampNeg ≤ aL hv7 rv9) ∧ (∀ hv10 : AH, hv10 = hRI hv7 rv9 (va_cpy (aI hv7 rv8) (aI hv7 rv9) (0 : Int32).toNatClampNeg (0 : Int32).toNatClampNeg (8 : Int32).toNatClampNeg) → ((ob hv10 a1 4) ∧ (∃ rv11, aP hv10 a1 4 = some rv11 ∧ ((ob hv10 a0 4) ∧ (∃ rv12, aP hv10 a0 4 = some rv12 ∧ ((ob hv10 rv11 13) ∧ ((ob hv10 rv12 13) ∧ ((¬ (0 : Int32) < 0) ∧ ((¬ (0 : Int32) < 0) ∧ ((¬ (8 : Int32) < 0) ∧ (((0 : Int32).toNatClampNeg + (8 : Int32).toNatClampNeg ≤ aL hv10 rv11) ∧ (((0 : Int32).toNatClampNeg + (8 : Int32).toNatClampNeg ≤ aL hv10 rv12) ∧ (∀ hv13 : AH, hv13 = hRI hv10 rv12 (va_cpy (aI hv10 rv11) (aI hv10 rv12) (0 : Int32).toNatClampNeg (0 : Int32).toNatClampNeg (8 : Int32).toNatClampNeg) → ((ob hv13 a1 4) ∧ (∃ rv14, aP hv13 a1 5 = some rv14 ∧ ((ob hv13 a0 4) ∧ (∃ rv15, aP hv13 a0 5 = some rv15 ∧ ((ob hv13 rv14 13) ∧ ((ob hv13 rv15 13) ∧ ((¬ (0 : Int32) < 0) ∧ ((¬ (0 : Int32) < 0) ∧ ((¬ (8 : Int32) < 0) ∧ (((0 : Int32).toNatClampNeg + (8 : Int32).toNatClampNeg ≤ aL hv13 rv14) ∧ (((0 : Int32).toNatClampNeg + (8 : Int32).toNatClampNeg ≤ aL hv13 rv15) ∧ (∀ hv16 : AH, hv16 = hRI hv13 rv15 (va_cpy (aI hv13 rv14) (aI hv13 rv15) (0 : Int32).toNatClampNeg (0 : Int32).toNatClampNeg (8 : Int32).toNatClampNeg) → (post hv16)))))))))))))))))))))))))))))))))))))))))))))))))))))))))))))))
set_option maxRecDepth 100000 in
theorem c_X4_copy (G : GG) (h : AH) (a0 : Nat) (a1 : Nat) (post : AH → Prop) (hw : wp_X4_copy h a0 a1 post) : MC G yX4_copy cX4_copy 2 none 1 26 h [.ref (G.1 + a0), .ref (G.1 + a1)] (pV post) := by
  refine MC.of (lv := [(0, .ref (G.1 + a0)), (1, .ref (G.1 + a1))]) (by decide) (Nat.le_of_ble_eq_true rfl) rfl fun p l e R s m args below meth c C hr hnm => ?_
  unfold wp_X4_copy at hw
  refine r_aload_n C dX4_copy_0 0 rfl ?_
  refine r_aload_n C dX4_copy_1 1 rfl ?_
  refine r_getI C fl_RX4_27_4 hw.1 (fun _ _ _ => rfl) dX4_copy_2 ?_
  replace hw := hw.2
  refine r_putI C fp_RX4_27_4 hw.1 rfl dX4_copy_5 ?_
  replace hw := hw.2
  refine r_toph fun hv1 ehv1 => ?_
  replace hw := hw hv1 ehv1
  refine r_aload_n C dX4_copy_8 1 rfl ?_
  have hob := hw.1
  obtain ⟨rv2, hp, hw⟩ := hw.2
  refine r_getP C fl_RX4_9_4 hob hp (fun _ _ _ => rfl) dX4_copy_9 ?_
  refine r_iconst (v := 0) C dX4_copy_12 (by decide) ?_
  refine r_aload_n C dX4_copy_13 0 rfl ?_
  have hob := hw.1
  obtain ⟨rv3, hp, hw⟩ := hw.2
  refine r_getP C fl_RX4_9_4 hob hp (fun _ _ _ => rfl) dX4_copy_14 ?_
  refine r_iconst (v := 0) C dX4_copy_17 (by decide) ?_
  refine r_bipush (v := 8) C dX4_copy_18 (by decide) ?_
  refine r_copyI C (gm6 (List.mem_of_getElem? (i := 83) rfl) rfl) (gm4 (List.mem_of_getElem? (i := 122) rfl) rfl) (gm4 (List.mem_of_getElem? (i := 121) rfl) rfl) (gm1 (List.mem_of_getElem? (i := 24) rfl) rfl) hw.1 hw.2.1 hw.2.2.1 hw.2.2.2.1 hw.2.2.2.2.1 hw.2.2.2.2.2.1 hw.2.2.2.2.2.2.1 ⟨by decide, Nat.le_of_ble_eq_true rfl⟩ dX4_copy_20 ?_
  replace hw := hw.2.2.2.2.2.2.2
  refine r_toph fun hv4 ehv4 => ?_
  replace hw := hw hv4 ehv4
  refine r_aload_n C dX4_copy_23 1 rfl ?_
  have hob := hw.1
  obtain ⟨rv5, hp, hw⟩ := hw.2
  refine r_getP C fl_RX4_15_4 hob hp (fun _ _ _ => rfl) dX4_copy_24 ?_
  refine r_iconst (v := 0) C dX4_copy_27 (by decide) ?_
  refine r_aload_n C dX4_copy_28 0 rfl ?_
  have hob := hw.1
  obtain ⟨rv6, hp, hw⟩ := hw.2
  refine r_getP C fl_RX4_15_4 hob hp (fun _ _ _ => rfl) dX4_copy_29 ?_
  refine r_iconst (v := 0) C dX4_copy_32 (by decide) ?_
  refine r_bipush (v := 8) C dX4_copy_33 (by decide) ?_
  refine r_copyI C (gm6 (List.mem_of_getElem? (i := 83) rfl) rfl) (gm4 (List.mem_of_getElem? (i := 122) rfl) rfl) (gm4 (List.mem_of_getElem? (i := 121) rfl) rfl) (gm1 (List.mem_of_getElem? (i := 24) rfl) rfl) hw.1 hw.2.1 hw.2.2.1 hw.2.2.2.1 hw.2.2.2.2.1 hw.2.2.2.2.2.1 hw.2.2.2.2.2.2.1 ⟨by decide, Nat.le_of_ble_eq_true rfl⟩ dX4_copy_35 ?_
  replace hw := hw.2.2.2.2.2.2.2
  refine r_toph fun hv7 ehv7 => ?_
  replace hw := hw hv7 ehv7
  refine r_aload_n C dX4_copy_38 1 rfl ?_
  have hob := hw.1
  obtain ⟨rv8, hp, hw⟩ := hw.2
  refine r_getP C fl_RX4_18_4 hob hp (fun _ _ _ => rfl) dX4_copy_39 ?_
  refine r_iconst (v := 0) C dX4_copy_42 (by decide) ?_
  refine r_aload_n C dX4_copy_43 0 rfl ?_
  have hob := hw.1
  obtain ⟨rv9, hp, hw⟩ := hw.2
  refine r_getP C fl_RX4_18_4 hob hp (fun _ _ _ => rfl) dX4_copy_44 ?_
  refine r_iconst (v := 0) C dX4_copy_47 (by decide) ?_
  refine r_bipush (v := 8) C dX4_copy_48 (by decide) ?_
  refine r_copyI C (gm6 (List.mem_of_getElem? (i := 83) rfl) rfl) (gm4 (List.mem_of_getElem? (i := 122) rfl) rfl) (gm4 (List.mem_of_getElem? (i := 121) rfl) rfl) (gm1 (List.mem_of_getElem? (i := 24) rfl) rfl) hw.1 hw.2.1 hw.2.2.1 hw.2.2.2.1 hw.2.2.2.2.1 hw.2.2.2.2.2.1 hw.2.2.2.2.2.2.1 ⟨by decide, Nat.le_of_ble_eq_true rfl⟩ dX4_copy_50 ?_
  replace hw := hw.2.2.2.2.2.2.2
  refine r_toph fun hv10 ehv10 => ?_
  replace hw := hw hv10 ehv10
  refine r_aload_n C dX4_copy_53 1 rfl ?_
  have hob := hw.1
  obtain ⟨rv11, hp, hw⟩ := hw.2
  refine r_getP C fl_RX4_21_4 hob hp (fun _ _ _ => rfl) dX4_copy_54 ?_
  refine r_iconst (v := 0) C dX4_copy_57 (by decide) ?_
  refine r_aload_n C dX4_copy_58 0 rfl ?_
  have hob := hw.1
  obtain ⟨rv12, hp, hw⟩ := hw.2
  refine r_getP C fl_RX4_21_4 hob hp (fun _ _ _ => rfl) dX4_copy_59 ?_
  refine r_iconst (v := 0) C dX4_copy_62 (by decide) ?_
  refine r_bipush (v := 8) C dX4_copy_63 (by decide) ?_
  refine r_copyI C (gm6 (List.mem_of_getElem? (i := 83) rfl) rfl) (gm4 (List.mem_of_getElem? (i := 122) rfl) rfl) (gm4 (List.mem_of_getElem? (i := 121) rfl) rfl) (gm1 (List.mem_of_getElem? (i := 24) rfl) rfl) hw.1 hw.2.1 hw.2.2.1 hw.2.2.2.1 hw.2.2.2.2.1 hw.2.2.2.2.2.1 hw.2.2.2.2.2.2.1 ⟨by decide, Nat.le_of_ble_eq_true rfl⟩ dX4_copy_65 ?_
  replace hw := hw.2.2.2.2.2.2.2
  refine r_toph fun hv13 ehv13 => ?_
  replace hw := hw hv13 ehv13
  refine r_aload_n C dX4_copy_68 1 rfl ?_
  have hob := hw.1
  obtain ⟨rv14, hp, hw⟩ := hw.2
  refine r_getP C fl_RX4_24_4 hob hp (fun _ _ _ => rfl) dX4_copy_69 ?_
  refine r_iconst (v := 0) C dX4_copy_72 (by decide) ?_
  refine r_aload_n C dX4_copy_73 0 rfl ?_
  have hob := hw.1
  obtain ⟨rv15, hp, hw⟩ := hw.2
  refine r_getP C fl_RX4_24_4 hob hp (fun _ _ _ => rfl) dX4_copy_74 ?_
  refine r_iconst (v := 0) C dX4_copy_77 (by decide) ?_
  refine r_bipush (v := 8) C dX4_copy_78 (by decide) ?_
  refine r_copyI C (gm6 (List.mem_of_getElem? (i := 83) rfl) rfl) (gm4 (List.mem_of_getElem? (i := 122) rfl) rfl) (gm4 (List.mem_of_getElem? (i := 121) rfl) rfl) (gm1 (List.mem_of_getElem? (i := 24) rfl) rfl) hw.1 hw.2.1 hw.2.2.1 hw.2.2.2.1 hw.2.2.2.2.1 hw.2.2.2.2.2.1 hw.2.2.2.2.2.2.1 ⟨by decide, Nat.le_of_ble_eq_true rfl⟩ dX4_copy_80 ?_
  replace hw := hw.2.2.2.2.2.2.2
  refine r_toph fun hv16 ehv16 => ?_
  replace hw := hw hv16 ehv16
  exact r_vret C hr dX4_copy_83 hw
theorem dX10_copy_0 : decode cX10_copy 0 = .ok (.aload_n 0, 1) := by decide +kernel
theorem dX10_copy_1 : decode cX10_copy 1 = .ok (.aload_n 1, 1) := by decide +kernel
theorem dX10_copy_2 : decode cX10_copy 2 = .ok (.getfield 24, 3) := by decide +kernel
theorem dX10_copy_5 : decode cX10_copy 5 = .ok (.putfield 24, 3) := by decide +kernel
theorem dX10_copy_8 : decode cX10_copy 8 = .ok (.aload_n 1, 1) := by decide +kernel
theorem dX10_copy_9 : decode cX10_copy 9 = .ok (.getfield 9, 3) := by decide +kernel
theorem dX10_copy_12 : decode cX10_copy 12 = .ok (.iconst 0, 1) := by decide +kernel
theorem dX10_copy_13 : decode cX10_copy 13 = .ok (.aload_n 0, 1) := by decide +kernel
theorem dX10_copy_14 : decode cX10_copy 14 = .ok (.getfield 9, 3) := by decide +kernel
theorem dX10_copy_17 : decode cX10_copy 17 = .ok (.iconst 0, 1) := by decide +kernel
theorem dX10_copy_18 : decode cX10_copy 18 = .ok (.bipush 10, 2) := by decide +kernel
theorem dX10_copy_20 : decode cX10_copy 20 = .ok (.invokestatic 28, 3) := by decide +kernel
theorem dX10_copy_23 : decode cX10_copy 23 = .ok (.aload_n 1, 1) := by decide +kernel
theorem dX10_copy_24 : decode cX10_copy 24 = .ok (.getfield 15, 3) := by decide +kernel
theorem dX10_copy_27 : decode cX10_copy 27 = .ok (.iconst 0, 1) := by decide +kernel
theorem dX10_copy_28 : decode cX10_copy 28 = .ok (.aload_n 0, 1) := by decide +kernel
theorem dX10_copy_29 : decode cX10_copy 29 = .ok (.getfield 15, 3) := by decide +kernel
theorem dX10_copy_32 : decode cX10_copy 32 = .ok (.iconst 0, 1) := by decide +kernel
theorem dX10_copy_33 : decode cX10_copy 33 = .ok (.bipush 10, 2) := by decide +kernel
theorem dX10_copy_35 : decode cX10_copy 35 = .ok (.invokestatic 28, 3) := by decide +kernel
theorem dX10_copy_38 : decode cX10_copy 38 = .ok (.aload_n 1, 1) := by decide +kernel
theorem dX10_copy_39 : decode cX10_copy 39 = .ok (.getfield 18, 3) := by decide +kernel
theorem dX10_copy_42 : decode cX10_copy 42 = .ok (.iconst 0, 1) := by decide +kernel
theorem dX10_copy_43 : decode cX10_copy 43 = .ok (.aload_n 0, 1) := by decide +kernel
theorem dX10_copy_44 : decode cX10_copy 44 = .ok (.getfield 18, 3) := by decide +kernel
theorem dX10_copy_47 : decode cX10_copy 47 = .ok (.iconst 0, 1) := by decide +kernel
theorem dX10_copy_48 : decode cX10_copy 48 = .ok (.bipush 10, 2) := by decide +kernel
theorem dX10_copy_50 : decode cX10_copy 50 = .ok (.invokestatic 28, 3) := by decide +kernel
theorem dX10_copy_53 : decode cX10_copy 53 = .ok (.aload_n 1, 1) := by decide +kernel
theorem dX10_copy_54 : decode cX10_copy 54 = .ok (.getfield 21, 3) := by decide +kernel
theorem dX10_copy_57 : decode cX10_copy 57 = .ok (.iconst 0, 1) := by decide +kernel
theorem dX10_copy_58 : decode cX10_copy 58 = .ok (.aload_n 0, 1) := by decide +kernel
theorem dX10_copy_59 : decode cX10_copy 59 = .ok (.getfield 21, 3) := by decide +kernel
theorem dX10_copy_62 : decode cX10_copy 62 = .ok (.iconst 0, 1) := by decide +kernel
theorem dX10_copy_63 : decode cX10_copy 63 = .ok (.bipush 10, 2) := by decide +kernel
theorem dX10_copy_65 : decode cX10_copy 65 = .ok (.invokestatic 28, 3) := by decide +kernel
theorem dX10_copy_68 : decode cX10_copy 68 = .ok (.return_, 1) := by decide +kernel
def wp_X10_copy (h : AH) (a0 : Nat) (a1 : Nat) (post : AH → Prop) : Prop := (ob h a1 9) ∧ ((ob h a0 9) ∧ (∀ hv1 : AH, hv1 = hI h a0 0 (aI h a1 0) → ((ob hv1 a1 9) ∧ (∃ rv2, aP hv1 a1 1 = some rv2 ∧ ((ob hv1 a0 9) ∧ (∃ rv3, aP hv1 a0 1 = some rv3 ∧ ((ob hv1 rv2 13) ∧ ((ob hv1 rv3 13) ∧ ((¬ (0 : Int32) < 0) ∧ ((¬ (0 : Int32) < 0) ∧ ((¬ (10 : Int32) < 0) ∧ (((0 : Int32).toNatClampNeg + (10 : Int32).toNatClampNeg ≤ aL hv1 rv2) ∧ (((0 : Int32).toNatClampNeg + (10 : Int32).toNatClampNeg ≤ aL hv1 rv3) ∧ (∀ hv4 : AH, hv4 = hRI hv1 rv3 (va_cpy (aI hv1 rv2) (aI hv1 rv3) (0 : Int32).toNatClampNeg (0 : Int32).toNatClampNeg (10 : Int32).toNatClampNeg) → ((ob hv4 a1 9) ∧ (∃ rv5, aP hv4 a1 2 = some rv5 ∧ ((ob hv4 a0 9) ∧ (∃ rv6, aP hv4 a0 2 = some rv6 ∧ ((ob hv4 rv5 13) ∧ ((ob hv4 rv6 13) ∧ ((¬ (0 : Int32) < 0) ∧ ((¬ (0 : Int32) < 0) ∧ ((¬ (10 : Int32) < 0) ∧ (((0 : Int32).toNatClampNeg + (10 : Int32).toNatClampNeg ≤ aL hv4 rv5) ∧ (((0 : Int32).toNatClampNeg + (10 : Int32).toNatClampNeg ≤ aL hv4 rv6) ∧ (∀ hv7 : AH, hv7 = hRI hv4 rv6 (va_cpy (aI hv4 rv5) (aI hv4 rv6) (0 : Int32).toNatClampNeg (0 : Int32).toNatClampNeg (10 : Int32).toNatClampNeg) → ((ob hv7 a1 9) ∧ (∃ rv8, aP hv7 a1 3 = some rv8 ∧ ((ob hv7 a0 9) ∧ (∃ rv9, aP hv7 a0 3 = some rv9 ∧ ((ob hv7 rv8 13) ∧ ((ob hv7 rv9 13) ∧ ((¬ (0 : Int32) < 0) ∧ ((¬ (0 : Int32) < 0) ∧ ((¬ (10 : Int32) < 0) ∧ (((0 : Int32).toNatClampNeg + (10 : Int32).toNatClampNeg ≤ aL hv7 rv8) ∧ (((0 : Int32).toNatClampNeg + (10 : Int32).toNatClampNeg ≤ aL hv7 rv9) ∧ (∀ hv10 : AH, hv10 = hRI hv7 rv9 (va_cpy (aI hv7 rv8) (aI hv7 rv9) (0 : Int32).toNatClampNeg (0 : Int32).toNatClampNeg (10 : Int32).toNatClampNeg) → ((ob hv10 a1 9) ∧ (∃ rv11, aP hv10 a1 4 = some rv11 ∧ ((ob hv10 a0 9) ∧ (∃ rv12, aP hv10 a0 4 = some rv12 ∧ ((ob hv10 rv11 13) ∧ ((ob hv10 rv12 13) ∧ ((¬ (0 : Int32) < 0) ∧ ((¬ (0 : Int32) < 0) ∧ ((¬ (10 : Int32) < 0) ∧ (((0 : Int32).toNatClampNeg + (10 : Int32).toNatClampNeg ≤ aL hv10 rv11) ∧ (((0 : Int32).toNatClampNeg + (10 : Int32).toNatClampNeg ≤ aL hv10 rv12) ∧ (∀ hv13 : AH, hv13 = hRI hv10 rv12 (va_cpy (aI hv10 rv11) (aI hv10 rv12) (0 : Int32).toNatClampNeg (0 : Int32).toNatClampNeg (10 : Int32).toNatClampNeg) → (post hv13)))))))))))))))))))))))))))))))))))))))))))))))))))
set_option maxRecDepth 100000 in
theorem c_X10_copy (G : GG) (h : AH) (a0 : Nat) (a1 : Nat) (post : AH → Prop) (hw : wp_X10_copy h a0 a1 post) : MC G yX10_copy cX10_copy 2 none 1 26 h [.ref (G.1 + a0), .ref (G.1 + a1)] (pV post) := by
  refine MC.of (lv := [(0, .ref (G.1 + a0)), (1, .ref (G.1 + a1))]) (by decide) (Nat.le_of_ble_eq_true rfl) rfl fun p l e R s m args below meth c C hr hnm => ?_
  unfold wp_X10_copy at hw
  refine r_aload_n C dX10_copy_0 0 rfl ?_
  refine r_aload_n C dX10_copy_1 1 rfl ?_
  refine r_getI C fl_RX10_24_9 hw.1 (fun _ _ _ => rfl) dX10_copy_2 ?_
  replace hw := hw.2
  refine r_putI C fp_RX10_24_9 hw.1 rfl dX10_copy_5 ?_
  replace hw := hw.2
  refine r_toph fun hv1 ehv1 => ?_
  replace hw := hw hv1 ehv1
  refine r_aload_n C dX10_copy_8 1 rfl ?_
  have hob := hw.1
  obtain ⟨rv2, hp, hw⟩ := hw.2
  refine r_getP C fl_RX10_9_9 hob hp (fun _ _ _ => rfl) dX10_copy_9 ?_
  refine r_iconst (v := 0) C dX10_copy_12 (by decide) ?_
  refine r_aload_n C dX10_copy_13 0 rfl ?_
  have hob := hw.1
  obtain ⟨rv3, hp, hw⟩ := hw.2
  refine r_getP C fl_RX10_9_9 hob hp (fun _ _ _ => rfl) dX10_copy_14 ?_
  refine r_iconst (v := 0) C dX10_copy_17 (by decide) ?_
  refine r_bipush (v := 10) C dX10_copy_18 (by decide) ?_
  refine r_copyI C (gm6 (List.mem_of_getElem? (i := 88) rfl) rfl) (gm4 (List.mem_of_getElem? (i := 122) rfl) rfl) (gm4 (List.mem_of_getElem? (i := 121) rfl) rfl) (gm1 (List.mem_of_getElem? (i := 24) rfl) rfl) hw.1 hw.2.1 hw.2.2.1 hw.2.2.2.1 hw.2.2.2.2.1 hw.2.2.2.2.2.1 hw.2.2.2.2.2.2.1 ⟨by decide, Nat.le_of_ble_eq_true rfl⟩ dX10_copy_20 ?_
  replace hw := hw.2.2.2.2.2.2.2
  refine r_toph fun hv4 ehv4 => ?_
  replace hw := hw hv4 ehv4
  refine r_aload_n C dX10_copy_23 1 rfl ?_
  have hob := hw.1
  obtain ⟨rv5, hp, hw⟩ := hw.2
  refine r_getP C fl_RX10_15_9 hob hp (fun _ _ _ => rfl) dX10_copy_24 ?_
  refine r_iconst (v := 0) C dX10_copy_27 (by decide) ?_
  refine r_aload_n C dX10_copy_28 0 rfl ?_
  have hob := hw.1
  obtain ⟨rv6, hp, hw⟩ := hw.2
  refine r_getP C fl_RX10_15_9 hob hp (fun _ _ _ => rfl) dX10_copy_29 ?_
  refine r_iconst (v := 0) C dX10_copy_32 (by decide) ?_
  refine r_bipush (v := 10) C dX10_copy_33 (by decide) ?_
  refine r_copyI C (gm6 (List.mem_of_getElem? (i := 88) rfl) rfl) (gm4 (List.mem_of_getElem? (i := 122) rfl) rfl) (gm4 (List.mem_of_getElem? (i := 121) rfl) rfl) (gm1 (List.mem_of_getElem? (i := 24) rfl) rfl) hw.1 hw.2.1 hw.2.2.1 hw.2.2.2.1 hw.2.2.2.2.1 hw.2.2.2.2.2.1 hw.2.2.2.2.2.2.1 ⟨by decide, Nat.le_of_ble_eq_true rfl⟩ dX10_copy_35 ?_
  replace hw := hw.2.2.2.2.2.2.2
  refine r_toph fun hv7 ehv7 => ?_
  replace hw := hw hv7 ehv7
  refine r_aload_n C dX10_copy_38 1 rfl ?_
  have hob := hw.1
  obtain ⟨rv8, hp, hw⟩ := hw.2
  refine r_getP C fl_RX10_18_9 hob hp (fun _ _ _ => rfl) dX10_copy_39 ?_
  refine r_iconst (v := 0) C dX10_copy_42 (by decide) ?_
  refine r_aload_n C dX10_copy_43 0 rfl ?_
  have hob := hw.1
  obtain ⟨rv9, hp, hw⟩ := hw.2
  refine r_getP C fl_RX10_18_9 hob hp (fun _ _ _ => rfl) dX10_copy_44 ?_
  refine r_iconst (v := 0) C dX10_copy_47 (by decide) ?_
  refine r_bipush (v := 10) C dX10_copy_48 (by decide) ?_
  refine r_copyI C (gm6 (List.mem_of_getElem? (i := 88) rfl) rfl) (gm4 (List.mem_of_getElem? (i := 122) rfl) rfl) (gm4 (List.mem_of_getElem? (i := 121) rfl) rfl) (gm1 (List.mem_of_getElem? (i := 24) rfl) rfl) hw.1 hw.2.1 hw.2.2.1 hw.2.2.2.1 hw.2.2.2.2.1 hw.2.2.2.2.2.1 hw.2.2.2.2.2.2.1 ⟨by decide, Nat.le_of_ble_eq_true rfl⟩ dX10_copy_50 ?_
  replace hw := hw.2.2.2.2.2.2.2
  refine r_toph fun hv10 ehv10 => ?_
  replace hw := hw hv10 ehv10
  refine r_aload_n C dX10_copy_53 1 rfl ?_
  have hob := hw.1
  obtain ⟨rv11, hp, hw⟩ := hw.2
  refine r_getP C fl_RX10_21_9 hob hp (fun _ _ _ => rfl) dX10_copy_54 ?_
  refine r_iconst (v := 0) C dX10_copy_57 (by decide) ?_
  refine r_aload_n C dX10_copy_58 0 rfl ?_
  have hob := hw.1
  obtain ⟨rv12, hp, hw⟩ := hw.2
  refine r_getP C fl_RX10_21_9 hob hp (fun _ _ _ => rfl) dX10_copy_59 ?_
  refine r_iconst (v := 0) C dX10_copy_62 (by decide) ?_
  refine r_bipush (v := 10) C dX10_copy_63 (by decide) ?_
  refine r_copyI C (gm6 (List.mem_of_getElem? (i := 88) rfl) rfl) (gm4 (List.mem_of_getElem? (i := 122) rfl) rfl) (gm4 (List.mem_of_getElem? (i := 121) rfl) rfl) (gm1 (List.mem_of_getElem? (i := 24) rfl) rfl) hw.1 hw.2.1 hw.2.2.1 hw.2.2.2.1 hw.2.2.2.2.1 hw.2.2.2.2.2.1 hw.2.2.2.2.2.2.1 ⟨by decide, Nat.le_of_ble_eq_true rfl⟩ dX10_copy_65 ?_
  replace hw := hw.2.2.2.2.2.2.2
  refine r_toph fun hv13 ehv13 => ?_
  replace hw := hw hv13 ehv13
  exact r_vret C hr dX10_copy_68 hw
theorem dX1_copy_0 : decode cX1_copy 0 = .ok (.aload_n 0, 1) := by decide +kernel
theorem dX1_copy_1 : decode cX1_copy 1 = .ok (.aload_n 1, 1) := by decide +kernel
theorem dX1_copy_2 : decode cX1_copy 2 = .ok (.getfield 60, 3) := by decide +kernel
theorem dX1_copy_5 : decode cX1_copy 5 = .ok (.putfield 60, 3) := by decide +kernel
theorem dX1_copy_8 : decode cX1_copy 8 = .ok (.aload_n 0, 1) := by decide +kernel
theorem dX1_copy_9 : decode cX1_copy 9 = .ok (.aload_n 1, 1) := by decide +kernel
theorem dX1_copy_10 : decode cX1_copy 10 = .ok (.getfield 64, 3) := by decide +kernel
theorem dX1_copy_13 : decode cX1_copy 13 = .ok (.putfield 64, 3) := by decide +kernel
theorem dX1_copy_16 : decode cX1_copy 16 = .ok (.aload_n 1, 1) := by decide +kernel
theorem dX1_copy_17 : decode cX1_copy 17 = .ok (.getfield 9, 3) := by decide +kernel
theorem dX1_copy_20 : decode cX1_copy 20 = .ok (.iconst 0, 1) := by decide +kernel
theorem dX1_copy_21 : decode cX1_copy 21 = .ok (.aload_n 0, 1) := by decide +kernel
theorem dX1_copy_22 : decode cX1_copy 22 = .ok (.getfield 9, 3) := by decide +kernel
theorem dX1_copy_25 : decode cX1_copy 25 = .ok (.iconst 0, 1) := by decide +kernel
theorem dX1_copy_26 : decode cX1_copy 26 = .ok (.bipush 64, 2) := by decide +kernel
theorem dX1_copy_28 : decode cX1_copy 28 = .ok (.invokestatic 86, 3) := by decide +kernel
theorem dX1_copy_31 : decode cX1_copy 31 = .ok (.aload_n 1, 1) := by decide +kernel
theorem dX1_copy_32 : decode cX1_copy 32 = .ok (.getfield 15, 3) := by decide +kernel
theorem dX1_copy_35 : decode cX1_copy 35 = .ok (.iconst 0, 1) := by decide +kernel
theorem dX1_copy_36 : decode cX1_copy 36 = .ok (.aload_n 0, 1) := by decide +kernel
theorem dX1_copy_37 : decode cX1_copy 37 = .ok (.getfield 15, 3) := by decide +kernel
theorem dX1_copy_40 : decode cX1_copy 40 = .ok (.iconst 0, 1) := by decide +kernel
theorem dX1_copy_41 : decode cX1_copy 41 = .ok (.bipush 10, 2) := by decide +kernel
theorem dX1_copy_43 : decode cX1_copy 43 = .ok (.invokestatic 86, 3) := by decide +kernel
theorem dX1_copy_46 : decode cX1_copy 46 = .ok (.aload_n 1, 1) := by decide +kernel
theorem dX1_copy_47 : decode cX1_copy 47 = .ok (.getfield 19, 3) := by decide +kernel
theorem dX1_copy_50 : decode cX1_copy 50 = .ok (.iconst 0, 1) := by decide +kernel
theorem dX1_copy_51 : decode cX1_copy 51 = .ok (.aload_n 0, 1) := by decide +kernel
theorem dX1_copy_52 : decode cX1_copy 52 = .ok (.getfield 19, 3) := by decide +kernel
theorem dX1_copy_55 : decode cX1_copy 55 = .ok (.iconst 0, 1) := by decide +kernel
theorem dX1_copy_56 : decode cX1_copy 56 = .ok (.bipush 24, 2) := by decide +kernel
theorem dX1_copy_58 : decode cX1_copy 58 = .ok (.invokestatic 86, 3) := by decide +kernel
theorem dX1_copy_61 : decode cX1_copy 61 = .ok (.aload_n 0, 1) := by decide +kernel
theorem dX1_copy_62 : decode cX1_copy 62 = .ok (.aload_n 1, 1) := by decide +kernel
theorem dX1_copy_63 : decode cX1_copy 63 = .ok (.getfield 70, 3) := by decide +kernel
theorem dX1_copy_66 : decode cX1_copy 66 = .ok (.putfield 70, 3) := by decide +kernel
theorem dX1_copy_69 : decode cX1_copy 69 = .ok (.aload_n 1, 1) := by decide +kernel
theorem dX1_copy_70 : decode cX1_copy 70 = .ok (.getfield 22, 3) := by decide +kernel
theorem dX1_copy_73 : decode cX1_copy 73 = .ok (.iconst 0, 1) := by decide +kernel
theorem dX1_copy_74 : decode cX1_copy 74 = .ok (.aload_n 0, 1) := by decide +kernel
theorem dX1_copy_75 : decode cX1_copy 75 = .ok (.getfield 22, 3) := by decide +kernel
theorem dX1_copy_78 : decode cX1_copy 78 = .ok (.iconst 0, 1) := by decide +kernel
theorem dX1_copy_79 : decode cX1_copy 79 = .ok (.bipush 8, 2) := by decide +kernel
theorem dX1_copy_81 : decode cX1_copy 81 = .ok (.invokestatic 86, 3) := by decide +kernel
theorem dX1_copy_84 : decode cX1_copy 84 = .ok (.aload_n 1, 1) := by decide +kernel
theorem dX1_copy_85 : decode cX1_copy 85 = .ok (.getfield 25, 3) := by decide +kernel
theorem dX1_copy_88 : decode cX1_copy 88 = .ok (.iconst 0, 1) := by decide +kernel
theorem dX1_copy_89 : decode cX1_copy 89 = .ok (.aload_n 0, 1) := by decide +kernel
theorem dX1_copy_90 : decode cX1_copy 90 = .ok (.getfield 25, 3) := by decide +kernel
theorem dX1_copy_93 : decode cX1_copy 93 = .ok (.iconst 0, 1) := by decide +kernel
theorem dX1_copy_94 : decode cX1_copy 94 = .ok (.bipush 8, 2) := by decide +kernel
theorem dX1_copy_96 : decode cX1_copy 96 = .ok (.invokestatic 86, 3) := by decide +kernel
theorem dX1_copy_99 : decode cX1_copy 99 = .ok (.aload_n 1, 1) := by decide +kernel
theorem dX1_copy_100 : decode cX1_copy 100 = .ok (.getfield 28, 3) := by decide +kernel
theorem dX1_copy_103 : decode cX1_copy 103 = .ok (.iconst 0, 1) := by decide +kernel
theorem dX1_copy_104 : decode cX1_copy 104 = .ok (.aload_n 0, 1) := by decide +kernel
theorem dX1_copy_105 : decode cX1_copy 105 = .ok (.getfield 28, 3) := by decide +kernel
theorem dX1_copy_108 : decode cX1_copy 108 = .ok (.iconst 0, 1) := by decide +kernel
theorem dX1_copy_109 : decode cX1_copy 109 = .ok (.bipush 8, 2) := by decide +kernel
theorem dX1_copy_111 : decode cX1_copy 111 = .ok (.invokestatic 86, 3) := by decide +kernel
theorem dX1_copy_114 : decode cX1_copy 114 = .ok (.aload_n 1, 1) := by decide +kernel
theorem dX1_copy_115 : decode cX1_copy 115 = .ok (.getfield 31, 3) := by decide +kernel
theorem dX1_copy_118 : decode cX1_copy 118 = .ok (.iconst 0, 1) := by decide +kernel
theorem dX1_copy_119 : decode cX1_copy 119 = .ok (.aload_n 0, 1) := by decide +kernel
theorem dX1_copy_120 : decode cX1_copy 120 = .ok (.getfield 31, 3) := by decide +kernel
theorem dX1_copy_123 : decode cX1_copy 123 = .ok (.iconst 0, 1) := by decide +kernel
theorem dX1_copy_124 : decode cX1_copy 124 = .ok (.bipush 8, 2) := by decide +kernel
theorem dX1_copy_126 : decode cX1_copy 126 = .ok (.invokestatic 86, 3) := by decide +kernel
theorem dX1_copy_129 : decode cX1_copy 129 = .ok (.aload_n 1, 1) := by decide +kernel
theorem dX1_copy_130 : decode cX1_copy 130 = .ok (.getfield 34, 3) := by decide +kernel
theorem dX1_copy_133 : decode cX1_copy 133 = .ok (.iconst 0, 1) := by decide +kernel
theorem dX1_copy_134 : decode cX1_copy 134 = .ok (.aload_n 0, 1) := by decide +kernel
theorem dX1_copy_135 : decode cX1_copy 135 = .ok (.getfield 34, 3) := by decide +kernel
theorem dX1_copy_138 : decode cX1_copy 138 = .ok (.iconst 0, 1) := by decide +kernel
theorem dX1_copy_139 : decode cX1_copy 139 = .ok (.bipush 8, 2) := by decide +kernel
theorem dX1_copy_141 : decode cX1_copy 141 = .ok (.invokestatic 86, 3) := by decide +kernel
theorem dX1_copy_144 : decode cX1_copy 144 = .ok (.aload_n 0, 1) := by decide +kernel
theorem dX1_copy_145 : decode cX1_copy 145 = .ok (.aload_n 1, 1) := by decide +kernel
theorem dX1_copy_146 : decode cX1_copy 146 = .ok (.getfield 73, 3) := by decide +kernel
theorem dX1_copy_149 : decode cX1_copy 149 = .ok (.putfield 73, 3) := by decide +kernel
theorem dX1_copy_152 : decode cX1_copy 152 = .ok (.aload_n 1, 1) := by decide +kernel
theorem dX1_copy_153 : decode cX1_copy 153 = .ok (.getfield 37, 3) := by decide +kernel
theorem dX1_copy_156 : decode cX1_copy 156 = .ok (.iconst 0, 1) := by decide +kernel
theorem dX1_copy_157 : decode cX1_copy 157 = .ok (.aload_n 0, 1) := by decide +kernel
theorem dX1_copy_158 : decode cX1_copy 158 = .ok (.getfield 37, 3) := by decide +kernel
theorem dX1_copy_161 : decode cX1_copy 161 = .ok (.iconst 0, 1) := by decide +kernel
theorem dX1_copy_162 : decode cX1_copy 162 = .ok (.bipush 6, 2) := by decide +kernel
theorem dX1_copy_164 : decode cX1_copy 164 = .ok (.invokestatic 86, 3) := by decide +kernel
theorem dX1_copy_167 : decode cX1_copy 167 = .ok (.aload_n 0, 1) := by decide +kernel
theorem dX1_copy_168 : decode cX1_copy 168 = .ok (.aload_n 1, 1) := by decide +kernel
theorem dX1_copy_169 : decode cX1_copy 169 = .ok (.getfield 76, 3) := by decide +kernel
theorem dX1_copy_172 : decode cX1_copy 172 = .ok (.putfield 76, 3) := by decide +kernel
theorem dX1_copy_175 : decode cX1_copy 175 = .ok (.aload_n 0, 1) := by decide +kernel
theorem dX1_copy_176 : decode cX1_copy 176 = .ok (.getfield 43, 3) := by decide +kernel
theorem dX1_copy_179 : decode cX1_copy 179 = .ok (.aload_n 1, 1) := by decide +kernel
theorem dX1_copy_180 : decode cX1_copy 180 = .ok (.getfield 43, 3) := by decide +kernel
theorem dX1_copy_183 : decode cX1_copy 183 = .ok (.invokevirtual 92, 3) := by decide +kernel
theorem dX1_copy_186 : decode cX1_copy 186 = .ok (.aload_n 0, 1) := by decide +kernel
theorem dX1_copy_187 : decode cX1_copy 187 = .ok (.getfield 50, 3) := by decide +kernel
theorem dX1_copy_190 : decode cX1_copy 190 = .ok (.aload_n 1, 1) := by decide +kernel
theorem dX1_copy_191 : decode cX1_copy 191 = .ok (.getfield 50, 3) := by decide +kernel
theorem dX1_copy_194 : decode cX1_copy 194 = .ok (.invokevirtual 96, 3) := by decide +kernel
theorem dX1_copy_197 : decode cX1_copy 197 = .ok (.return_, 1) := by decide +kernel
set_option maxRecDepth 100000 in
def wp_X1_copy (h : AH) (a0 : Nat) (a1 : Nat) (post : AH → Prop) : Prop := (ob h a1 1) ∧ ((ob h a0 1) ∧ (∀ hv1 : AH, hv1 = hI h a0 0 (aI h a1 0) → ((ob hv1 a1 1) ∧ ((ob hv1 a0 1) ∧ (∀ hv2 : AH, hv2 = hI hv1 a0 1 (aI hv1 a1 1) → ((ob hv2 a1 1) ∧ (∃ rv3, aP hv2 a1 2 = some rv3 ∧ ((ob hv2 a0 1) ∧ (∃ rv4, aP hv2 a0 2 = some rv4 ∧ ((ob hv2 rv3 13) ∧ ((ob hv2 rv4 13) ∧ ((¬ (0 : Int32) < 0) ∧ ((¬ (0 : Int32) < 0) ∧ ((¬ (64 : Int32) < 0) ∧ (((0 : Int32).toNatClampNeg + (64 : Int32).toNatClampNeg ≤ aL hv2 rv3) ∧ (((0 : Int32).toNatClampNeg + (64 : Int32).toNatClampNeg ≤ aL hv2 rv4) ∧ (∀ hv5 : AH, hv5 = hRI hv2 rv4 (va_cpy (aI hv2 rv3) (aI hv2 rv4) (0 : Int32).toNatClampNeg (0 : Int32).toNatClampNeg (64 : Int32).toNatClampNeg) → ((ob hv5 a1 1) ∧ (∃ rv6, aP hv5 a1 3 = some rv6 ∧ ((ob hv5 a0 1) ∧ (∃ rv7, aP hv5 a0 3 = some rv7 ∧ ((ob hv5 rv6 14) ∧ ((ob hv5 rv7 14) ∧ ((¬ (0 : Int32) < 0) ∧ ((¬ (0 : Int32) < 0) ∧ ((¬ (10 : Int32) < 0) ∧ (((0 : Int32).toNatClampNeg + (10 : Int32).toNatClampNeg ≤ aL hv5 rv6) ∧ (((0 : Int32).toNatClampNeg + (10 : Int32).toNatClampNeg ≤ aL hv5 rv7) ∧ (∀ hv8 : AH, hv8 = hRJ hv5 rv7 (va_cpy (aJ hv5 rv6) (aJ hv5 rv7) (0 : Int32).toNatClampNeg (0 : Int32).toNatClampNeg (10 : Int32).toNatClampNeg) → ((ob hv8 a1 1) ∧ (∃ rv9, aP hv8 a1 4 = some rv9 ∧ ((ob hv8 a0 1) ∧ (∃ rv10, aP hv8 a0 4 = some rv10 ∧ ((ob hv8 rv9 13) ∧ ((ob hv8 rv10 13) ∧ ((¬ (0 : Int32) < 0) ∧ ((¬ (0 : Int32) < 0) ∧ ((¬ (24 : Int32) < 0) ∧ (((0 : Int32).toNatClampNeg + (24 : Int32).toNatClampNeg ≤ aL hv8 rv9) ∧ (((0 : Int32).toNatClampNeg + (24 : Int32).toNatClampNeg ≤ aL hv8 rv10) ∧ (∀ hv11 : AH, hv11 = hRI hv8 rv10 (va_cpy (aI hv8 rv9) (aI hv8 rv10) (0 : Int32).toNatClampNeg (0 : Int32).toNatClampNeg (24 : Int32).toNatClampNeg) → ((ob hv11 a1 1) ∧ ((ob hv11 a0 1) ∧ (∀ hv12 : AH, hv12 = hI hv11 a0 5 (aI hv11 a1 5) → ((ob hv12 a1 1) ∧ (∃ rv13, aP hv12 a1 6 = some rv13 ∧ ((ob hv12 a0 1) ∧ (∃ rv14, aP hv12 a0 6 = some rv14 ∧ ((ob hv12 rv13 13) ∧ ((ob hv12 rv14 13) ∧ ((¬ (0 : Int32) < 0) ∧ ((¬ (0 : Int32) < 0) ∧ ((¬ (8 : Int32) < 0) ∧ (((0 : Int32).toNatClampNeg + (8 : Int32).toNatClampNeg ≤ aL hv12 rv13) ∧ (((0 : Int32).toNatClampNeg + (8 : Int32).toNatClampNeg ≤ aL hv12 rv14) ∧ (∀ hv15 : AH, hv15 = hRI hv12 rv14 (va_cpy (aI hv12 rv13) (aI hv12 rv14) (0 : Int32).toNatClampNeg (0 : Int32).toNatClampNeg (8 : Int32).toNatClampNeg) → ((ob hv15 a1 1) ∧ (∃ rv16, aP hv15 a1 7 = some rv16 ∧ ((ob hv15 a0 1) ∧ (∃ rv17, aP hv15 a0 7 = some rv17 ∧ ((ob hv15 rv16 13) ∧ ((ob hv15 rv17 13) ∧ ((¬ (0 : Int32) < 0) ∧ ((¬ (0 : Int32) < 0) ∧ ((¬ (8 : Int32) < 0) ∧ (((0 : Int32).toNatClampNeg + (8 : Int32).toNatClampNeg ≤ aL hv15 rv16) ∧ (((0 : Int32).toNatClampNeg + (8 : Int32).toNatClampNeg ≤ aL hv15 rv17) ∧ (∀ hv18 : AH, hv18 = hRI hv15 rv17 (va_cpy (aI hv15 rv16) (aI hv15 rv17) (0 : Int32).toNatClampNeg (0 : Int32).toNatClampNeg (8 : Int32).toNatClampNeg) → ((ob hv18 a1 1) ∧ (∃ rv19, aP hv18 a1 8 = some rv19 ∧ ((ob hv18 a0 1) ∧ (∃ rv20, aP hv18 a0 8 = some rv20 ∧ ((ob hv18 rv19 13) ∧ ((ob hv18 rv20 13) ∧ ((¬ (0 : Int32) < 0) ∧ ((¬ (0 : Int32) < 0) ∧ ((¬ (8 : Int32) < 0) ∧ (((0 : Int32).toNatClampNeg + (8 : Int32).toNatClampNeg ≤ aL hv18 rv19) ∧ (((0 : Int32).toNatClampNeg + (8 : Int32).toNatClampNeg ≤ aL hv18 rv20) ∧ (∀ hv21 : AH, hv21 = hRI hv18 rv20 (va_cpy (aI hv18 rv19) (aI hv18 rv20) (0 : Int32).toNatClampNeg (0 : Int32).toNatClampNeg (8 : Int32).toNatClampNeg) → ((ob hv21 a1 1) ∧ (∃ rv22, aP hv21 a1 9 = some rv22 ∧ ((ob hv21 a0 1) ∧ (∃ rv23, aP hv21 a0 9 = some rv23 ∧ ((ob hv21 rv22 13) ∧ ((ob hv21 rv23 13) ∧ ((¬ (0 : Int32) < 0) ∧ ((¬ (0 : Int32) < 0) ∧ ((¬ (8 : Int32) < 0) ∧ (((0 : Int32).toNatClampNeg + (8 : Int32).toNatClampNeg ≤ aL hv21 rv22) ∧ (((0 : Int32).toNatClampNeg + (8 : Int32).toNatClampNeg ≤ aL hv21 rv23) ∧ (∀ hv24 : AH, hv24 = hRI hv21 rv23 (va_cpy (aI hv21 rv22) (aI hv21 rv23) (0 : Int32).toNatClampNeg (0 : Int32).toNatClampNeg (8 : Int32).toNatClampNeg) → ((ob hv24 a1 1) ∧ (∃ rv25, aP hv24 a1 10 = some rv25 ∧ ((ob hv24 a0 1) ∧ (∃ rv26, aP hv24 a0 10 = some rv26 ∧ ((ob hv24 rv25 13) ∧ ((ob hv24 rv26 13) ∧ ((¬ (0 : Int32) < 0) ∧ ((¬ (0 : Int32) < 0) ∧ ((¬ (8 : Int32) < 0) ∧ (((0 : Int32).toNatClampNeg + (8 : Int32).toNatClampNeg ≤ aL hv24 rv25) ∧ (((0 : Int32).toNatClampNeg + (8 : Int32).toNatClampNeg ≤ aL hv24 rv26) ∧ (∀ hv27 : AH, hv27 = hRI hv24 rv26 (va_cpy (aI hv24 rv25) (aI hv24 rv26) (0 : Int32).toNatClampNeg (0 : Int32).toNatClampNeg (8 : Int32).toNatClampNeg) → ((ob hv27 a1 1) ∧ ((ob hv27 a0 1) ∧ (∀ hv28 : AH, hv28 = hI hv27 a0 11 (aI hv27 a1 11) → ((ob hv28 a1 1) ∧ (∃ rv29, aP hv28 a1 12 = some rv29 ∧ ((ob hv28 a0 1) ∧ (∃ rv30, aP hv28 a0 12 = some rv30 ∧ ((ob hv28 rv29 13) ∧ ((ob hv28 rv30 13) ∧ ((¬ (0 : Int32) < 0) ∧ ((¬ (0 : Int32) < 0) ∧ ((¬ (6 : Int32) < 0) ∧ (((0 : Int32).toNatClampNeg + (6 : Int32).toNatClampNeg ≤ aL hv28 rv29) ∧ (((0 : Int32).toNatClampNeg + (6 : Int32).toNatClampNeg ≤ aL hv28 rv30) ∧ (∀ hv31 : AH, hv31 = hRI hv28 rv30 (va_cpy (aI hv28 rv29) (aI hv28 rv30) (0 : Int32).toNatClampNeg (0 : Int32).toNatClampNeg (6 : Int32).toNatClampNeg) → ((ob hv31 a1 1) ∧ ((ob hv31 a0 1) ∧ (∀ hv32 : AH, hv32 = hJ hv31 a0 13 (aJ hv31 a1 13) → ((ob hv32 a0 1) ∧ (∃ rv33, aP hv32 a0 14 = some rv33 ∧ ((ob hv32 a1 1) ∧ (∃ rv34, aP hv32 a1 14 = some rv34 ∧ ((ob hv32 rv33 4) ∧ wp_X4_copy hv32 rv33 rv34 (fun hv35  => (ob hv35 a0 1) ∧ (∃ rv36, aP hv35 a0 15 = some rv36 ∧ ((ob hv35 a1 1) ∧ (∃ rv37, aP hv35 a1 15 = some rv37 ∧ ((ob hv35 rv36 9) ∧ wp_X10_copy hv35 rv36 rv37 (fun hv38  => post hv38)))))))))))))))))))))))))))))))))))))))))))))))))))))))))))))))))))))))))))))))))))))))))))))))))))))))))))))))))))))))))))))))))))))
set_option maxRecDepth 100000 in
theorem c_X1_copy (G : GG) (h : AH) (a0 : Nat) (a1 : Nat) (post : AH → Prop) (hw : wp_X1_copy h a0 a1 post) : MC G yX1_copy cX1_copy 2 none 2 47 h [.ref (G.1 + a0), .ref (G.1 + a1)] (pV post) := by
  refine MC.of (lv := [(0, .ref (G.1 + a0)), (1, .ref (G.1 + a1))]) (by decide) (Nat.le_of_ble_eq_true rfl) rfl fun p l e R s m args below meth c C hr hnm => ?_
  unfold wp_X1_copy at hw
  refine r_aload_n C dX1_copy_0 0 rfl ?_
  refine r_aload_n C dX1_copy_1 1 rfl ?_
  refine r_getI C fl_RX1_60_1 hw.1 (fun _ _ _ => rfl) dX1_copy_2 ?_
  replace hw := hw.2
  refine r_putI C fp_RX1_60_1 hw.1 rfl dX1_copy_5 ?_
  replace hw := hw.2
  refine r_toph fun hv1 ehv1 => ?_
  replace hw := hw hv1 ehv1
  refine r_aload_n C dX1_copy_8 0 rfl ?_
  refine r_aload_n C dX1_copy_9 1 rfl ?_
  refine r_getI C fl_RX1_64_1 hw.1 (fun _ _ _ => rfl) dX1_copy_10 ?_
  replace hw := hw.2
  refine r_putI C fp_RX1_64_1 hw.1 rfl dX1_copy_13 ?_
  replace hw := hw.2
  refine r_toph fun hv2 ehv2 => ?_
  replace hw := hw hv2 ehv2
  refine r_aload_n C dX1_copy_16 1 rfl ?_
  have hob := hw.1
  obtain ⟨rv3, hp, hw⟩ := hw.2
  refine r_getP C fl_RX1_9_1 hob hp (fun _ _ _ => rfl) dX1_copy_17 ?_
  refine r_iconst (v := 0) C dX1_copy_20 (by decide) ?_
  refine r_aload_n C dX1_copy_21 0 rfl ?_
  have hob := hw.1
  obtain ⟨rv4, hp, hw⟩ := hw.2
  refine r_getP C fl_RX1_9_1 hob hp (fun _ _ _ => rfl) dX1_copy_22 ?_
  refine r_iconst (v := 0) C dX1_copy_25 (by decide) ?_
  refine r_bipush (v := 64) C dX1_copy_26 (by decide) ?_
  refine r_copyI C (gm6 (List.mem_of_getElem? (i := 78) rfl) rfl) (gm4 (List.mem_of_getElem? (i := 122) rfl) rfl) (gm4 (List.mem_of_getElem? (i := 121) rfl) rfl) (gm1 (List.mem_of_getElem? (i := 24) rfl) rfl) hw.1 hw.2.1 hw.2.2.1 hw.2.2.2.1 hw.2.2.2.2.1 hw.2.2.2.2.2.1 hw.2.2.2.2.2.2.1 ⟨by decide, Nat.le_of_ble_eq_true rfl⟩ dX1_copy_28 ?_
  replace hw := hw.2.2.2.2.2.2.2
  refine r_toph fun hv5 ehv5 => ?_
  replace hw := hw hv5 ehv5
  refine r_aload_n C dX1_copy_31 1 rfl ?_
  have hob := hw.1
  obtain ⟨rv6, hp, hw⟩ := hw.2
  refine r_getP C fl_RX1_15_1 hob hp (fun _ _ _ => rfl) dX1_copy_32 ?_
  refine r_iconst (v := 0) C dX1_copy_35 (by decide) ?_
  refine r_aload_n C dX1_copy_36 0 rfl ?_
  have hob := hw.1
  obtain ⟨rv7, hp, hw⟩ := hw.2
  refine r_getP C fl_RX1_15_1 hob hp (fun _ _ _ => rfl) dX1_copy_37 ?_
  refine r_iconst (v := 0) C dX1_copy_40 (by decide) ?_
  refine r_bipush (v := 10) C dX1_copy_41 (by decide) ?_
  refine r_copyJ C (gm6 (List.mem_of_getElem? (i := 78) rfl) rfl) (gm4 (List.mem_of_getElem? (i := 122) rfl) rfl) (gm4 (List.mem_of_getElem? (i := 121) rfl) rfl) (gm1 (List.mem_of_getElem? (i := 24) rfl) rfl) hw.1 hw.2.1 hw.2.2.1 hw.2.2.2.1 hw.2.2.2.2.1 hw.2.2.2.2.2.1 hw.2.2.2.2.2.2.1 ⟨by decide, Nat.le_of_ble_eq_true rfl⟩ dX1_copy_43 ?_
  replace hw := hw.2.2.2.2.2.2.2
  refine r_toph fun hv8 ehv8 => ?_
  replace hw := hw hv8 ehv8
  refine r_aload_n C dX1_copy_46 1 rfl ?_
  have hob := hw.1
  obtain ⟨rv9, hp, hw⟩ := hw.2
  refine r_getP C fl_RX1_19_1 hob hp (fun _ _ _ => rfl) dX1_copy_47 ?_
  refine r_iconst (v := 0) C dX1_copy_50 (by decide) ?_
  refine r_aload_n C dX1_copy_51 0 rfl ?_
  have hob := hw.1
  obtain ⟨rv10, hp, hw⟩ := hw.2
  refine r_getP C fl_RX1_19_1 hob hp (fun _ _ _ => rfl) dX1_copy_52 ?_
  refine r_iconst (v := 0) C dX1_copy_55 (by decide) ?_
  refine r_bipush (v := 24) C dX1_copy_56 (by decide) ?_
  refine r_copyI C (gm6 (List.mem_of_getElem? (i := 78) rfl) rfl) (gm4 (List.mem_of_getElem? (i := 122) rfl) rfl) (gm4 (List.mem_of_getElem? (i := 121) rfl) rfl) (gm1 (List.mem_of_getElem? (i := 24) rfl) rfl) hw.1 hw.2.1 hw.2.2.1 hw.2.2.2.1 hw.2.2.2.2.1 hw.2.2.2.2.2.1 hw.2.2.2.2.2.2.1 ⟨by decide, Nat.le_of_ble_eq_true rfl⟩ dX1_copy_58 ?_
  replace hw := hw.2.2.2.2.2.2.2
  refine r_toph fun hv11 ehv11 => ?_
  replace hw := hw hv11 ehv11
  refine r_aload_n C dX1_copy_61 0 rfl ?_
  refine r_aload_n C dX1_copy_62 1 rfl ?_
  refine r_getI C fl_RX1_70_1 hw.1 (fun _ _ _ => rfl) dX1_copy_63 ?_
  replace hw := hw.2
  refine r_putI C fp_RX1_70_1 hw.1 rfl dX1_copy_66 ?_
  replace hw := hw.2
  refine r_toph fun hv12 ehv12 => ?_
  replace hw := hw hv12 ehv12
  refine r_aload_n C dX1_copy_69 1 rfl ?_
  have hob := hw.1
  obtain ⟨rv13, hp, hw⟩ := hw.2
  refine r_getP C fl_RX1_22_1 hob hp (fun _ _ _ => rfl) dX1_copy_70 ?_
  refine r_iconst (v := 0) C dX1_copy_73 (by decide) ?_
  refine r_aload_n C dX1_copy_74 0 rfl ?_
  have hob := hw.1
  obtain ⟨rv14, hp, hw⟩ := hw.2
  refine r_getP C fl_RX1_22_1 hob hp (fun _ _ _ => rfl) dX1_copy_75 ?_
  refine r_iconst (v := 0) C dX1_copy_78 (by decide) ?_
  refine r_bipush (v := 8) C dX1_copy_79 (by decide) ?_
  refine r_copyI C (gm6 (List.mem_of_getElem? (i := 78) rfl) rfl) (gm4 (List.mem_of_getElem? (i := 122) rfl) rfl) (gm4 (List.mem_of_getElem? (i := 121) rfl) rfl) (gm1 (List.mem_of_getElem? (i := 24) rfl) rfl) hw.1 hw.2.1 hw.2.2.1 hw.2.2.2.1 hw.2.2.2.2.1 hw.2.2.2.2.2.1 hw.2.2.2.2.2.2.1 ⟨by decide, Nat.le_of_ble_eq_true rfl⟩ dX1_copy_81 ?_
  replace hw := hw.2.2.2.2.2.2.2
  refine r_toph fun hv15 ehv15 => ?_
  replace hw := hw hv15 ehv15
  refine r_aload_n C dX1_copy_84 1 rfl ?_
  have hob := hw.1
  obtain ⟨rv16, hp, hw⟩ := hw.2
  refine r_getP C fl_RX1_25_1 hob hp (fun _ _ _ => rfl) dX1_copy_85 ?_
  refine r_iconst (v := 0) C dX1_copy_88 (by decide) ?_
  refine r_aload_n C dX1_copy_89 0 rfl ?_
  have hob := hw.1
  obtain ⟨rv17, hp, hw⟩ := hw.2
  refine r_getP C fl_RX1_25_1 hob hp (fun _ _ _ => rfl) dX1_copy_90 ?_
  refine r_iconst (v := 0) C dX1_copy_93 (by decide) ?_
  refine r_bipush (v := 8) C dX1_copy_94 (by decide) ?_
  refine r_copyI C (gm6 (List.mem_of_getElem? (i := 78) rfl) rfl) (gm4 (List.mem_of_getElem? (i := 122) rfl) rfl) (gm4 (List.mem_of_getElem? (i := 121) rfl) rfl) (gm1 (List.mem_of_getElem? (i := 24) rfl) rfl) hw.1 hw.2.1 hw.2.2.1 hw.2.2.2.1 hw.2.2.2.2.1 hw.2.2.2.2.2.1 hw.2.2.2.2.2.2.1 ⟨by decide, Nat.le_of_ble_eq_true rfl⟩ dX1_copy_96 ?_
  replace hw := hw.2.2.2.2.2.2.2
  refine r_toph fun hv18 ehv18 => ?_
  replace hw := hw hv18 ehv18
  refine r_aload_n C dX1_copy_99 1 rfl ?_
  have hob := hw.1
  obtain ⟨rv19, hp, hw⟩ := hw.2
  refine r_getP C fl_RX1_28_1 hob hp (fun _ _ _ => rfl) dX1_copy_100 ?_
  refine r_iconst (v := 0) C dX1_copy_103 (by decide) ?_
  refine r_aload_n C dX1_copy_104 0 rfl ?_
  have hob := hw.1
  obtain ⟨rv20, hp, hw⟩ := hw.2
  refine r_getP C fl_RX1_28_1 hob hp (fun _ _ _ => rfl) dX1_copy_105 ?_
  refine r_iconst (v := 0) C dX1_copy_108 (by decide) ?_
  refine r_bipush (v := 8) C dX1_copy_109 (by decide) ?_
  refine r_copyI C (gm6 (List.mem_of_getElem? (i := 78) rfl) rfl) (gm4 (List.mem_of_getElem? (i := 122) rfl) rfl) (gm4 (List.mem_of_getElem? (i := 121) rfl) rfl) (gm1 (List.mem_of_getElem? (i := 24) rfl) rfl) hw.1 hw.2.1 hw.2.2.1 hw.2.2.2.1 hw.2.2.2.2.1 hw.2.2.2.2.2.1 hw.2.2.2.2.2.2.1 ⟨by decide, Nat.le_of_ble_eq_true rfl⟩ dX1_copy_111 ?_
  replace hw := hw.2.2.2.2.2.2.2
  refine r_toph fun hv21 ehv21 => ?_
  replace hw := hw hv21 ehv21
  refine r_aload_n C dX1_copy_114 1 rfl ?_
  have hob := hw.1
  obtain ⟨rv22, hp, hw⟩ := hw.2
  refine r_getP C fl_RX1_31_1 hob hp (fun _ _ _ => rfl) dX1_copy_115 ?_
  refine r_iconst (v := 0) C dX1_copy_118 (by decide) ?_
  refine r_aload_n C dX1_copy_119 0 rfl ?_
  have hob := hw.1
  obtain ⟨rv23, hp, hw⟩ := hw.2
  refine r_getP C fl_RX1_31_1 hob hp (fun _ _ _ => rfl) dX1_copy_120 ?_
  refine r_iconst (v := 0) C dX1_copy_123 (by decide) ?_
  refine r_bipush (v := 8) C dX1_copy_124 (by decide) ?_
  refine r_copyI C (gm6 (List.mem_of_getElem? (i := 78) rfl) rfl) (gm4 (List.mem_of_getElem? (i := 122) rfl) rfl) (gm4 (List.mem_of_getElem? (i := 121) rfl) rfl) (gm1 (List.mem_of_getElem? (i := 24) rfl) rfl) hw.1 hw.2.1 hw.2.2.1 hw.2.2.2.1 hw.2.2.2.2.1 hw.2.2.2.2.2.1 hw.2.2.2.2.2.2.1 ⟨by decide, Nat.le_of_ble_eq_true rfl⟩ dX1_copy_126 ?_
  replace hw := hw.2.2.2.2.2.2.2
  refine r_toph fun hv24 ehv24 => ?_
  replace hw := hw hv24 ehv24
  refine r_aload_n C dX1_copy_129 1 rfl ?_
  have hob := hw.1
  obtain ⟨rv25, hp, hw⟩ := hw.2
  refine r_getP C fl_RX1_34_1 hob hp (fun _ _ _ => rfl) dX1_copy_130 ?_
  refine r_iconst (v := 0) C dX1_copy_133 (by decide) ?_
  refine r_aload_n C dX1_copy_134 0 rfl ?_
  have hob := hw.1
  obtain ⟨rv26, hp, hw⟩ := hw.2
  refine r_getP C fl_RX1_34_1 hob hp (fun _ _ _ => rfl) dX1_copy_135 ?_
  refine r_iconst (v := 0) C dX1_copy_138 (by decide) ?_
  refine r_bipush (v := 8) C dX1_copy_139 (by decide) ?_
  refine r_copyI C (gm6 (List.mem_of_getElem? (i := 78) rfl) rfl) (gm4 (List.mem_of_getElem? (i := 122) rfl) rfl) (gm4 (List.mem_of_getElem? (i := 121) rfl) rfl) (gm1 (List.mem_of_getElem? (i := 24) rfl) rfl) hw.1 hw.2.1 hw.2.2.1 hw.2.2.2.1 hw.2.2.2.2.1 hw.2.2.2.2.2.1 hw.2.2.2.2.2.2.1 ⟨by decide, Nat.le_of_ble_eq_true rfl⟩ dX1_copy_141 ?_
  replace hw := hw.2.2.2.2.2.2.2
  refine r_toph fun hv27 ehv27 => ?_
  replace hw := hw hv27 ehv27
  refine r_aload_n C dX1_copy_144 0 rfl ?_
  refine r_aload_n C dX1_copy_145 1 rfl ?_
  refine r_getI C fl_RX1_73_1 hw.1 (fun _ _ _ => rfl) dX1_copy_146 ?_
  replace hw := hw.2
  refine r_putI C fp_RX1_73_1 hw.1 rfl dX1_copy_149 ?_
  replace hw := hw.2
  refine r_toph fun hv28 ehv28 => ?_
  replace hw := hw hv28 ehv28
  refine r_aload_n C dX1_copy_152 1 rfl ?_
  have hob := hw.1
  obtain ⟨rv29, hp, hw⟩ := hw.2
  refine r_getP C fl_RX1_37_1 hob hp (fun _ _ _ => rfl) dX1_copy_153 ?_
  refine r_iconst (v := 0) C dX1_copy_156 (by decide) ?_
  refine r_aload_n C dX1_copy_157 0 rfl ?_
  have hob := hw.1
  obtain ⟨rv30, hp, hw⟩ := hw.2
  refine r_getP C fl_RX1_37_1 hob hp (fun _ _ _ => rfl) dX1_copy_158 ?_
  refine r_iconst (v := 0) C dX1_copy_161 (by decide) ?_
  refine r_bipush (v := 6) C dX1_copy_162 (by decide) ?_
  refine r_copyI C (gm6 (List.mem_of_getElem? (i := 78) rfl) rfl) (gm4 (List.mem_of_getElem? (i := 122) rfl) rfl) (gm4 (List.mem_of_getElem? (i := 121) rfl) rfl) (gm1 (List.mem_of_getElem? (i := 24) rfl) rfl) hw.1 hw.2.1 hw.2.2.1 hw.2.2.2.1 hw.2.2.2.2.1 hw.2.2.2.2.2.1 hw.2.2.2.2.2.2.1 ⟨by decide, Nat.le_of_ble_eq_true rfl⟩ dX1_copy_164 ?_
  replace hw := hw.2.2.2.2.2.2.2
  refine r_toph fun hv31 ehv31 => ?_
  replace hw := hw hv31 ehv31
  refine r_aload_n C dX1_copy_167 0 rfl ?_
  refine r_aload_n C dX1_copy_168 1 rfl ?_
  refine r_getJ C fl_RX1_76_1 hw.1 (fun _ _ _ => rfl) dX1_copy_169 ?_
  replace hw := hw.2
  refine r_putJ C fp_RX1_76_1 hw.1 rfl dX1_copy_172 ?_
  replace hw := hw.2
  refine r_toph fun hv32 ehv32 => ?_
  replace hw := hw hv32 ehv32
  refine r_aload_n C dX1_copy_175 0 rfl ?_
  have hob := hw.1
  obtain ⟨rv33, hp, hw⟩ := hw.2
  refine r_getP C fl_RX1_43_1 hob hp (fun _ _ _ => rfl) dX1_copy_176 ?_
  refine r_aload_n C dX1_copy_179 1 rfl ?_
  have hob := hw.1
  obtain ⟨rv34, hp, hw⟩ := hw.2
  refine r_getP C fl_RX1_43_1 hob hp (fun _ _ _ => rfl) dX1_copy_180 ?_
  have hob := hw.1
  replace hw := hw.2
  refine r_callV C (As := [.ref (G.1 + rv34)]) (rest := []) (c_X4_copy G hv32 rv33 rv34 _ hw) yl_X4_copy (gm6 (List.mem_of_getElem? (i := 79) rfl) rfl) (gm6 (List.mem_of_getElem? (i := 80) rfl) rfl) (ci := 4) rfl (by decide) (gm6 (List.mem_of_getElem? (i := 81) rfl) rfl) hob (by decide) rfl (Nat.le_of_ble_eq_true rfl) dX1_copy_183 rfl (kV fun hv35  hw => ?_)
  refine r_aload_n C dX1_copy_186 0 rfl ?_
  have hob := hw.1
  obtain ⟨rv36, hp, hw⟩ := hw.2
  refine r_getP C fl_RX1_50_1 hob hp (fun _ _ _ => rfl) dX1_copy_187 ?_
  refine r_aload_n C dX1_copy_190 1 rfl ?_
  have hob := hw.1
  obtain ⟨rv37, hp, hw⟩ := hw.2
  refine r_getP C fl_RX1_50_1 hob hp (fun _ _ _ => rfl) dX1_copy_191 ?_
  have hob := hw.1
  replace hw := hw.2
  refine r_callV C (As := [.ref (G.1 + rv37)]) (rest := []) (c_X10_copy G hv35 rv36 rv37 _ hw) yl_X10_copy (gm6 (List.mem_of_getElem? (i := 84) rfl) rfl) (gm6 (List.mem_of_getElem? (i := 85) rfl) rfl) (ci := 9) rfl (by decide) (gm6 (List.mem_of_getElem? (i := 86) rfl) rfl) hob (by decide) rfl (Nat.le_of_ble_eq_true rfl) dX1_copy_194 rfl (kV fun hv38  hw => ?_)
  exact r_vret C hr dX1_copy_197 hw
theorem dX1_addRow_0 : decode cX1_addRow 0 = .ok (.aload_n 0, 1) := by decide +kernel
theorem dX1_addRow_1 : decode cX1_addRow 1 = .ok (.getfield 64, 3) := by decide +kernel
theorem dX1_addRow_4 : decode cX1_addRow 4 = .ok (.bipush 8, 2) := by decide +kernel
theorem dX1_addRow_6 : decode cX1_addRow 6 = .ok (.if_icmp .ge 9, 3) := by decide +kernel
theorem dX1_addRow_9 : decode cX1_addRow 9 = .ok (.iload_n 2, 1) := by decide +kernel
theorem dX1_addRow_10 : decode cX1_addRow 10 = .ok (.bipush 8, 2) := by decide +kernel
theorem dX1_addRow_12 : decode cX1_addRow 12 = .ok (.if_icmp .le 4, 3) := by decide +kernel
theorem dX1_addRow_15 : decode cX1_addRow 15 = .ok (.return_, 1) := by decide +kernel
theorem dX1_addRow_16 : decode cX1_addRow 16 = .ok (.aload_n 0, 1) := by decide +kernel
theorem dX1_addRow_17 : decode cX1_addRow 17 = .ok (.iload_n 2, 1) := by decide +kernel
theorem dX1_addRow_18 : decode cX1_addRow 18 = .ok (.putfield 60, 3) := by decide +kernel
theorem dX1_addRow_21 : decode cX1_addRow 21 = .ok (.iload_n 1, 1) := by decide +kernel
theorem dX1_addRow_22 : decode cX1_addRow 22 = .ok (.istore_n 3, 1) := by decide +kernel
theorem dX1_addRow_23 : decode cX1_addRow 23 = .ok (.iload_n 2, 1) := by decide +kernel
theorem dX1_addRow_24 : decode cX1_addRow 24 = .ok (.iconst 1, 1) := by decide +kernel
theorem dX1_addRow_25 : decode cX1_addRow 25 = .ok (.isub, 1) := by decide +kernel
theorem dX1_addRow_26 : decode cX1_addRow 26 = .ok (.istore 4, 2) := by decide +kernel
theorem dX1_addRow_28 : decode cX1_addRow 28 = .ok (.iload 4, 2) := by decide +kernel
theorem dX1_addRow_30 : decode cX1_addRow 30 = .ok (.ifCond .lt 72, 3) := by decide +kernel
theorem dX1_addRow_33 : decode cX1_addRow 33 = .ok (.iload_n 3, 1) := by decide +kernel
theorem dX1_addRow_34 : decode cX1_addRow 34 = .ok (.bipush 10, 2) := by decide +kernel
theorem dX1_addRow_36 : decode cX1_addRow 36 = .ok (.irem, 1) := by decide +kernel
theorem dX1_addRow_37 : decode cX1_addRow 37 = .ok (.istore 5, 2) := by decide +kernel
theorem dX1_addRow_39 : decode cX1_addRow 39 = .ok (.iload_n 3, 1) := by decide +kernel
theorem dX1_addRow_40 : decode cX1_addRow 40 = .ok (.bipush 10, 2) := by decide +kernel
theorem dX1_addRow_42 : decode cX1_addRow 42 = .ok (.idiv, 1) := by decide +kernel
theorem dX1_addRow_43 : decode cX1_addRow 43 = .ok (.istore_n 3, 1) := by decide +kernel
theorem dX1_addRow_44 : decode cX1_addRow 44 = .ok (.bipush 8, 2) := by decide +kernel
theorem dX1_addRow_46 : decode cX1_addRow 46 = .ok (.aload_n 0, 1) := by decide +kernel
theorem dX1_addRow_47 : decode cX1_addRow 47 = .ok (.getfield 64, 3) := by decide +kernel
theorem dX1_addRow_50 : decode cX1_addRow 50 = .ok (.imul, 1) := by decide +kernel
theorem dX1_addRow_51 : decode cX1_addRow 51 = .ok (.iload 4, 2) := by decide +kernel
theorem dX1_addRow_53 : decode cX1_addRow 53 = .ok (.iadd, 1) := by decide +kernel
theorem dX1_addRow_54 : decode cX1_addRow 54 = .ok (.istore 6, 2) := by decide +kernel
theorem dX1_addRow_56 : decode cX1_addRow 56 = .ok (.aload_n 0, 1) := by decide +kernel
theorem dX1_addRow_57 : decode cX1_addRow 57 = .ok (.getfield 9, 3) := by decide +kernel
theorem dX1_addRow_60 : decode cX1_addRow 60 = .ok (.iload 6, 2) := by decide +kernel
theorem dX1_addRow_62 : decode cX1_addRow 62 = .ok (.iload 5, 2) := by decide +kernel
theorem dX1_addRow_64 : decode cX1_addRow 64 = .ok (.iastore, 1) := by decide +kernel
theorem dX1_addRow_65 : decode cX1_addRow 65 = .ok (.iload 5, 2) := by decide +kernel
theorem dX1_addRow_67 : decode cX1_addRow 67 = .ok (.istore 7, 2) := by decide +kernel
theorem dX1_addRow_69 : decode cX1_addRow 69 = .ok (.iload 7, 2) := by decide +kernel
theorem dX1_addRow_71 : decode cX1_addRow 71 = .ok (.bipush 10, 2) := by decide +kernel
theorem dX1_addRow_73 : decode cX1_addRow 73 = .ok (.if_icmp .ge 23, 3) := by decide +kernel
theorem dX1_addRow_76 : decode cX1_addRow 76 = .ok (.aload_n 0, 1) := by decide +kernel
theorem dX1_addRow_77 : decode cX1_addRow 77 = .ok (.getfield 15, 3) := by decide +kernel
theorem dX1_addRow_80 : decode cX1_addRow 80 = .ok (.iload 7, 2) := by decide +kernel
theorem dX1_addRow_82 : decode cX1_addRow 82 = .ok (.dup2, 1) := by decide +kernel
theorem dX1_addRow_83 : decode cX1_addRow 83 = .ok (.laload, 1) := by decide +kernel
theorem dX1_addRow_84 : decode cX1_addRow 84 = .ok (.lconst 1, 1) := by decide +kernel
theorem dX1_addRow_85 : decode cX1_addRow 85 = .ok (.iload 6, 2) := by decide +kernel
theorem dX1_addRow_87 : decode cX1_addRow 87 = .ok (.lshl, 1) := by decide +kernel
theorem dX1_addRow_88 : decode cX1_addRow 88 = .ok (.lor, 1) := by decide +kernel
theorem dX1_addRow_89 : decode cX1_addRow 89 = .ok (.lastore, 1) := by decide +kernel
theorem dX1_addRow_90 : decode cX1_addRow 90 = .ok (.iinc 7 1, 3) := by decide +kernel
theorem dX1_addRow_93 : decode cX1_addRow 93 = .ok (.goto (-24), 3) := by decide +kernel
theorem dX1_addRow_96 : decode cX1_addRow 96 = .ok (.iinc 4 (-1), 3) := by decide +kernel
theorem dX1_addRow_99 : decode cX1_addRow 99 = .ok (.goto (-71), 3) := by decide +kernel
theorem dX1_addRow_102 : decode cX1_addRow 102 = .ok (.aload_n 0, 1) := by decide +kernel
theorem dX1_addRow_103 : decode cX1_addRow 103 = .ok (.dup, 1) := by decide +kernel
theorem dX1_addRow_104 : decode cX1_addRow 104 = .ok (.getfield 64, 3) := by decide +kernel
theorem dX1_addRow_107 : decode cX1_addRow 107 = .ok (.iconst 1, 1) := by decide +kernel
theorem dX1_addRow_108 : decode cX1_addRow 108 = .ok (.iadd, 1) := by decide +kernel
theorem dX1_addRow_109 : decode cX1_addRow 109 = .ok (.putfield 64, 3) := by decide +kernel
theorem dX1_addRow_112 : decode cX1_addRow 112 = .ok (.return_, 1) := by decide +kernel
def wb_X1_addRow_69 (K28 : AH → Nat → Int32 → Int32 → Prop) (K69 : AH → Nat → Int32 → Int32 → Int32 → Int32 → Prop) (h : AH) (al0 : Nat) (xl3 : Int32) (xl4 : Int32) (xl6 : Int32) (xl7 : Int32)  (post : AH → Prop) : Prop := (10 ≤ xl7 → (∀ iv1 : Int32, iv1 = xl4 + (-1) → (K28 h al0 xl3 iv1))) ∧ (¬ 10 ≤ xl7 → ((ob h al0 1) ∧ (∃ rv2, aP h al0 3 = some rv2 ∧ ((ob h rv2 14) ∧ ((vp_in xl7 (aL h rv2)) ∧ ((ob h rv2 14) ∧ ((vp_in xl7 (aL h rv2)) ∧ (∀ hv3 : AH, hv3 = hJ h rv2 xl7.toNatClampNeg ((aJ h rv2 xl7.toNatClampNeg) ||| ((1 : Int64) <<< (xl6.toInt64 &&& 63))) → (∀ iv4 : Int32, iv4 = xl7 + 1 → (K69 hv3 al0 xl3 xl4 xl6 iv4))))))))))
set_option maxRecDepth 100000 in
theorem tb_X1_addRow_69 {G : GG} {p : Program} {l : Launch} {e : Env} {R : Room} {s : State} {m : MethodId} {args : Array Value} {below : List Frame} {meth : Method} {c : Code} {n0 s0 : Nat} {post : AH → Prop} (C : Cx G p R s m args meth c 8 cX1_addRow RX1 n0 s0 0 0) (hr : meth.sig.returnType = none) {K28 : AH → Nat → Int32 → Int32 → Prop} {K69 : AH → Nat → Int32 → Int32 → Int32 → Int32 → Prop} (hK28 : ∀ (h : AH) (al0 : Nat) (xl3 : Int32) (xl4 : Int32), K28 h al0 xl3 xl4 → AW G p l e R s m args below meth c 8 (QM G (pV post) args s below n0 s0) 28 [(0, .ref (G.1 + al0)), (3, .int xl3), (4, .int xl4)] [] h) (hK69 : ∀ (h : AH) (al0 : Nat) (xl3 : Int32) (xl4 : Int32) (xl6 : Int32) (xl7 : Int32), K69 h al0 xl3 xl4 xl6 xl7 → AW G p l e R s m args below meth c 8 (QM G (pV post) args s below n0 s0) 69 [(0, .ref (G.1 + al0)), (3, .int xl3), (4, .int xl4), (6, .int xl6), (7, .int xl7)] [] h) {h : AH} {al0 : Nat} {xl3 : Int32} {xl4 : Int32} {xl6 : Int32} {xl7 : Int32}  (hw : wb_X1_addRow_69 K28 K69 h al0 xl3 xl4 xl6 xl7 post) : AW G p l e R s m args below meth c 8 (QM G (pV post) args s below n0 s0) 69 [(0, .ref (G.1 + al0)), (3, .int xl3), (4, .int xl4), (6, .int xl6), (7, .int xl7)] [] h := by
  unfold wb_X1_addRow_69 at hw
  refine r_iload C dX1_addRow_69 4 rfl ?_
  refine r_bipush (v := 10) C dX1_addRow_71 (by decide) ?_
  refine r_icmp_ge C dX1_addRow_73 96 (by decide) (fun hc => ?_) (fun hc => ?_)
  · replace hw := hw.1 hc
    obtain ⟨iv1, eiv1⟩ : ∃ q : Int32, q = xl4 + (-1) := ⟨_, rfl⟩
    replace hw := hw iv1 eiv1
    refine r_iinc C dX1_addRow_96 2 rfl (by rw [eiv1]; rfl) [(4, .int iv1), (0, .ref (G.1 + al0)), (3, .int xl3), (6, .int xl6), (7, .int xl7)] (by decide) rfl ?_
    refine r_goto C dX1_addRow_99 28 (by decide) ?_
    refine r_sub [1, 2, 0] rfl ?_
    exact hK28 _ _ _ _ hw
  · replace hw := hw.2 hc
    refine r_aload_n C dX1_addRow_76 0 rfl ?_
    have hob := hw.1
    obtain ⟨rv2, hp, hw⟩ := hw.2
    refine r_getP C fl_RX1_15_1 hob hp (fun _ _ _ => rfl) dX1_addRow_77 ?_
    refine r_iload C dX1_addRow_80 4 rfl ?_
    refine r_dup2 C dX1_addRow_82 rfl rfl ?_
    refine r_laload C hw.1 hw.2.1 dX1_addRow_83 ?_
    replace hw := hw.2.2
    refine r_lconst (v := 1) C dX1_addRow_84 (by decide) ?_
    refine r_iload C dX1_addRow_85 3 rfl ?_
    refine r_lshl C dX1_addRow_87 ?_
    refine r_lor C dX1_addRow_88 ?_
    refine r_lastore C hw.1 hw.2.1 dX1_addRow_89 ?_
    replace hw := hw.2.2
    refine r_toph fun hv3 ehv3 => ?_
    replace hw := hw hv3 ehv3
    obtain ⟨iv4, eiv4⟩ : ∃ q : Int32, q = xl7 + 1 := ⟨_, rfl⟩
    replace hw := hw iv4 eiv4
    refine r_iinc C dX1_addRow_90 4 rfl (by rw [eiv4]; rfl) [(7, .int iv4), (0, .ref (G.1 + al0)), (3, .int xl3), (4, .int xl4), (6, .int xl6)] (by decide) rfl ?_
    refine r_goto C dX1_addRow_93 69 (by decide) ?_
    refine r_sub [1, 2, 3, 4, 0] rfl ?_
    exact hK69 _ _ _ _ _ _ hw
def wl_X1_addRow_69 (K28 : AH → Nat → Int32 → Int32 → Prop) (post : AH → Prop) : Nat → AH → Nat → Int32 → Int32 → Int32 → Int32 → Prop
  | 0 => fun _ _ _ _ _ _ => False
  | n + 1 => fun h al0 xl3 xl4 xl6 xl7 => wb_X1_addRow_69 K28 (wl_X1_addRow_69 K28 post n) h al0 xl3 xl4 xl6 xl7 post
theorem tl_X1_addRow_69 {G : GG} {p : Program} {l : Launch} {e : Env} {R : Room} {s : State} {m : MethodId} {args : Array Value} {below : List Frame} {meth : Method} {c : Code} {n0 s0 : Nat} {post : AH → Prop} (C : Cx G p R s m args meth c 8 cX1_addRow RX1 n0 s0 0 0) (hr : meth.sig.returnType = none) {K28 : AH → Nat → Int32 → Int32 → Prop} (hK28 : ∀ (h : AH) (al0 : Nat) (xl3 : Int32) (xl4 : Int32), K28 h al0 xl3 xl4 → AW G p l e R s m args below meth c 8 (QM G (pV post) args s below n0 s0) 28 [(0, .ref (G.1 + al0)), (3, .int xl3), (4, .int xl4)] [] h) : ∀ (n : Nat) (h : AH) (al0 : Nat) (xl3 : Int32) (xl4 : Int32) (xl6 : Int32) (xl7 : Int32), wl_X1_addRow_69 K28 post n h al0 xl3 xl4 xl6 xl7 → AW G p l e R s m args below meth c 8 (QM G (pV post) args s below n0 s0) 69 [(0, .ref (G.1 + al0)), (3, .int xl3), (4, .int xl4), (6, .int xl6), (7, .int xl7)] [] h := by
  intro n
  induction n with
  | zero => intro h al0 xl3 xl4 xl6 xl7 hw; exact hw.elim
  | succ n ih => intro h al0 xl3 xl4 xl6 xl7 hw; exact tb_X1_addRow_69 C hr hK28 ih hw
def wb_X1_addRow_28 (K28 : AH → Nat → Int32 → Int32 → Prop) (h : AH) (al0 : Nat) (xl3 : Int32) (xl4 : Int32)  (post : AH → Prop) : Prop := (xl4 < 0 → ((ob h al0 1) ∧ ((ob h al0 1) ∧ (∀ hv1 : AH, hv1 = hI h al0 1 ((aI h al0 1) + (1 : Int32)) → (post hv1))))) ∧ (¬ xl4 < 0 → (∀ iv2 : Int32, iv2 = xl3 - xl3 / 10 * 10 → (∀ iv3 : Int32, iv3 = xl3 / 10 → ((ob h al0 1) ∧ (∀ iv4 : Int32, iv4 = ((8 : Int32) * (aI h al0 1)) + xl4 → ((ob h al0 1) ∧ (∃ rv5, aP h al0 2 = some rv5 ∧ ((ob h rv5 13) ∧ ((vp_in iv4 (aL h rv5)) ∧ (∀ hv6 : AH, hv6 = hI h rv5 iv4.toNatClampNeg iv2 → (∃ n, wl_X1_addRow_69 K28 post n hv6 al0 iv3 xl4 iv4 iv2)))))))))))
set_option maxRecDepth 100000 in
theorem tb_X1_addRow_28 {G : GG} {p : Program} {l : Launch} {e : Env} {R : Room} {s : State} {m : MethodId} {args : Array Value} {below : List Frame} {meth : Method} {c : Code} {n0 s0 : Nat} {post : AH → Prop} (C : Cx G p R s m args meth c 8 cX1_addRow RX1 n0 s0 0 0) (hr : meth.sig.returnType = none) {K28 : AH → Nat → Int32 → Int32 → Prop} (hK28 : ∀ (h : AH) (al0 : Nat) (xl3 : Int32) (xl4 : Int32), K28 h al0 xl3 xl4 → AW G p l e R s m args below meth c 8 (QM G (pV post) args s below n0 s0) 28 [(0, .ref (G.1 + al0)), (3, .int xl3), (4, .int xl4)] [] h) {h : AH} {al0 : Nat} {xl3 : Int32} {xl4 : Int32}  (hw : wb_X1_addRow_28 K28 h al0 xl3 xl4 post) : AW G p l e R s m args below meth c 8 (QM G (pV post) args s below n0 s0) 28 [(0, .ref (G.1 + al0)), (3, .int xl3), (4, .int xl4)] [] h := by
  unfold wb_X1_addRow_28 at hw
  refine r_iload C dX1_addRow_28 2 rfl ?_
  refine r_if_lt C dX1_addRow_30 102 (by decide) (fun hc => ?_) (fun hc => ?_)
  · replace hw := hw.1 hc
    refine r_aload_n C dX1_addRow_102 0 rfl ?_
    refine r_dup C dX1_addRow_103 rfl ?_
    refine r_getI C fl_RX1_64_1 hw.1 (fun _ _ _ => rfl) dX1_addRow_104 ?_
    replace hw := hw.2
    refine r_iconst (v := 1) C dX1_addRow_107 (by decide) ?_
    refine r_iadd C dX1_addRow_108 ?_
    refine r_putI C fp_RX1_64_1 hw.1 rfl dX1_addRow_109 ?_
    replace hw := hw.2
    refine r_toph fun hv1 ehv1 => ?_
    replace hw := hw hv1 ehv1
    exact r_vret C hr dX1_addRow_112 hw
  · replace hw := hw.2 hc
    refine r_iload_n C dX1_addRow_33 1 rfl ?_
    refine r_bipush (v := 10) C dX1_addRow_34 (by decide) ?_
    refine r_irem C dX1_addRow_36 (by decide) ?_
    refine r_topi fun iv2 eiv2 => ?_
    replace hw := hw iv2 eiv2
    refine r_istore C dX1_addRow_37 [(5, .int iv2), (0, .ref (G.1 + al0)), (3, .int xl3), (4, .int xl4)] (by decide) rfl ?_
    refine r_iload_n C dX1_addRow_39 2 rfl ?_
    refine r_bipush (v := 10) C dX1_addRow_40 (by decide) ?_
    refine r_idiv C dX1_addRow_42 (by decide) ?_
    refine r_topi fun iv3 eiv3 => ?_
    replace hw := hw iv3 eiv3
    refine r_istore_n C dX1_addRow_43 [(3, .int iv3), (5, .int iv2), (0, .ref (G.1 + al0)), (4, .int xl4)] (by decide) rfl ?_
    refine r_bipush (v := 8) C dX1_addRow_44 (by decide) ?_
    refine r_aload_n C dX1_addRow_46 2 rfl ?_
    refine r_getI C fl_RX1_64_1 hw.1 (fun _ _ _ => rfl) dX1_addRow_47 ?_
    replace hw := hw.2
    refine r_imul C dX1_addRow_50 ?_
    refine r_iload C dX1_addRow_51 3 rfl ?_
    refine r_iadd C dX1_addRow_53 ?_
    refine r_topi fun iv4 eiv4 => ?_
    replace hw := hw iv4 eiv4
    refine r_istore C dX1_addRow_54 [(6, .int iv4), (3, .int iv3), (5, .int iv2), (0, .ref (G.1 + al0)), (4, .int xl4)] (by decide) rfl ?_
    refine r_aload_n C dX1_addRow_56 3 rfl ?_
    have hob := hw.1
    obtain ⟨rv5, hp, hw⟩ := hw.2
    refine r_getP C fl_RX1_9_1 hob hp (fun _ _ _ => rfl) dX1_addRow_57 ?_
    refine r_iload C dX1_addRow_60 0 rfl ?_
    refine r_iload C dX1_addRow_62 2 rfl ?_
    refine r_iastore C hw.1 hw.2.1 dX1_addRow_64 ?_
    replace hw := hw.2.2
    refine r_toph fun hv6 ehv6 => ?_
    replace hw := hw hv6 ehv6
    refine r_iload C dX1_addRow_65 2 rfl ?_
    refine r_istore C dX1_addRow_67 [(7, .int iv2), (6, .int iv4), (3, .int iv3), (5, .int iv2), (0, .ref (G.1 + al0)), (4, .int xl4)] (by decide) rfl ?_
    refine r_sub [4, 2, 5, 1, 0] rfl ?_
    obtain ⟨n, hw⟩ := hw
    exact tl_X1_addRow_69 C hr hK28 n _ _ _ _ _ _ hw
def wl_X1_addRow_28  (post : AH → Prop) : Nat → AH → Nat → Int32 → Int32 → Prop
  | 0 => fun _ _ _ _ => False
  | n + 1 => fun h al0 xl3 xl4 => wb_X1_addRow_28  (wl_X1_addRow_28  post n) h al0 xl3 xl4 post
theorem tl_X1_addRow_28 {G : GG} {p : Program} {l : Launch} {e : Env} {R : Room} {s : State} {m : MethodId} {args : Array Value} {below : List Frame} {meth : Method} {c : Code} {n0 s0 : Nat} {post : AH → Prop} (C : Cx G p R s m args meth c 8 cX1_addRow RX1 n0 s0 0 0) (hr : meth.sig.returnType = none)   : ∀ (n : Nat) (h : AH) (al0 : Nat) (xl3 : Int32) (xl4 : Int32), wl_X1_addRow_28  post n h al0 xl3 xl4 → AW G p l e R s m args below meth c 8 (QM G (pV post) args s below n0 s0) 28 [(0, .ref (G.1 + al0)), (3, .int xl3), (4, .int xl4)] [] h := by
  intro n
  induction n with
  | zero => intro h al0 xl3 xl4 hw; exact hw.elim
  | succ n ih => intro h al0 xl3 xl4 hw; exact tb_X1_addRow_28 C hr  ih hw
def wp_X1_addRow (h : AH) (a0 : Nat) (x1 : Int32) (x2 : Int32) (post : AH → Prop) : Prop := (ob h a0 1) ∧ ((8 ≤ (aI h a0 1) → (post h)) ∧ (¬ 8 ≤ (aI h a0 1) → ((x2 ≤ 8 → ((ob h a0 1) ∧ (∀ hv1 : AH, hv1 = hI h a0 0 x2 → (∀ iv2 : Int32, iv2 = x2 - (1 : Int32) → (∃ n, wl_X1_addRow_28  post n hv1 a0 x1 iv2))))) ∧ (¬ x2 ≤ 8 → (post h)))))
set_option maxRecDepth 100000 in
theorem c_X1_addRow (G : GG) (h : AH) (a0 : Nat) (x1 : Int32) (x2 : Int32) (post : AH → Prop) (hw : wp_X1_addRow h a0 x1 x2 post) : MC G yX1_addRow cX1_addRow 8 none 0 0 h [.ref (G.1 + a0), .int x1, .int x2] (pV post) := by
  refine MC.of (lv := [(0, .ref (G.1 + a0)), (1, .int x1), (2, .int x2)]) (by decide) (Nat.le_of_ble_eq_true rfl) rfl fun p l e R s m args below meth c C hr hnm => ?_
  unfold wp_X1_addRow at hw
  refine r_aload_n C dX1_addRow_0 0 rfl ?_
  refine r_getI C fl_RX1_64_1 hw.1 (fun _ _ _ => rfl) dX1_addRow_1 ?_
  replace hw := hw.2
  refine r_bipush (v := 8) C dX1_addRow_4 (by decide) ?_
  refine r_icmp_ge C dX1_addRow_6 15 (by decide) (fun hc => ?_) (fun hc => ?_)
  · replace hw := hw.1 hc
    exact r_vret C hr dX1_addRow_15 hw
  · replace hw := hw.2 hc
    refine r_iload_n C dX1_addRow_9 2 rfl ?_
    refine r_bipush (v := 8) C dX1_addRow_10 (by decide) ?_
    refine r_icmp_le C dX1_addRow_12 16 (by decide) (fun hc => ?_) (fun hc => ?_)
    · replace hw := hw.1 hc
      refine r_aload_n C dX1_addRow_16 0 rfl ?_
      refine r_iload_n C dX1_addRow_17 2 rfl ?_
      refine r_putI C fp_RX1_60_1 hw.1 rfl dX1_addRow_18 ?_
      replace hw := hw.2
      refine r_toph fun hv1 ehv1 => ?_
      replace hw := hw hv1 ehv1
      refine r_iload_n C dX1_addRow_21 1 rfl ?_
      refine r_istore_n C dX1_addRow_22 [(3, .int x1), (0, .ref (G.1 + a0)), (1, .int x1), (2, .int x2)] (by decide) rfl ?_
      refine r_iload_n C dX1_addRow_23 3 rfl ?_
      refine r_iconst (v := 1) C dX1_addRow_24 (by decide) ?_
      refine r_isub C dX1_addRow_25 ?_
      refine r_topi fun iv2 eiv2 => ?_
      replace hw := hw iv2 eiv2
      refine r_istore C dX1_addRow_26 [(4, .int iv2), (3, .int x1), (0, .ref (G.1 + a0)), (1, .int x1), (2, .int x2)] (by decide) rfl ?_
      refine r_sub [2, 1, 0] rfl ?_
      obtain ⟨n, hw⟩ := hw
      exact tl_X1_addRow_28 C hr  n _ _ _ _ hw
    · replace hw := hw.2 hc
      exact r_vret C hr dX1_addRow_15 hw
theorem dX1_isSmall_0 : decode cX1_isSmall 0 = .ok (.aload_n 0, 1) := by decide +kernel
theorem dX1_isSmall_1 : decode cX1_isSmall 1 = .ok (.getfield 70, 3) := by decide +kernel
theorem dX1_isSmall_4 : decode cX1_isSmall 4 = .ok (.iconst 3, 1) := by decide +kernel
theorem dX1_isSmall_5 : decode cX1_isSmall 5 = .ok (.if_icmp .gt 21, 3) := by decide +kernel
theorem dX1_isSmall_8 : decode cX1_isSmall 8 = .ok (.aload_n 0, 1) := by decide +kernel
theorem dX1_isSmall_9 : decode cX1_isSmall 9 = .ok (.getfield 60, 3) := by decide +kernel
theorem dX1_isSmall_12 : decode cX1_isSmall 12 = .ok (.aload_n 0, 1) := by decide +kernel
theorem dX1_isSmall_13 : decode cX1_isSmall 13 = .ok (.getfield 64, 3) := by decide +kernel
theorem dX1_isSmall_16 : decode cX1_isSmall 16 = .ok (.imul, 1) := by decide +kernel
theorem dX1_isSmall_17 : decode cX1_isSmall 17 = .ok (.bipush 25, 2) := by decide +kernel
theorem dX1_isSmall_19 : decode cX1_isSmall 19 = .ok (.if_icmp .gt 7, 3) := by decide +kernel
theorem dX1_isSmall_22 : decode cX1_isSmall 22 = .ok (.iconst 1, 1) := by decide +kernel
theorem dX1_isSmall_23 : decode cX1_isSmall 23 = .ok (.goto 4, 3) := by decide +kernel
theorem dX1_isSmall_26 : decode cX1_isSmall 26 = .ok (.iconst 0, 1) := by decide +kernel
theorem dX1_isSmall_27 : decode cX1_isSmall 27 = .ok (.ireturn, 1) := by decide +kernel
def wp_X1_isSmall (h : AH) (a0 : Nat) (post : AH → Int32 → Prop) : Prop := (ob h a0 1) ∧ ((3 < (aI h a0 5) → (((0 : Int32) = 0 ∨ (0 : Int32) = 1) ∧ post h 0)) ∧ (¬ 3 < (aI h a0 5) → ((ob h a0 1) ∧ ((ob h a0 1) ∧ ((25 < ((aI h a0 0) * (aI h a0 1)) → (((0 : Int32) = 0 ∨ (0 : Int32) = 1) ∧ post h 0)) ∧ (¬ 25 < ((aI h a0 0) * (aI h a0 1)) → (((1 : Int32) = 0 ∨ (1 : Int32) = 1) ∧ post h 1)))))))
set_option maxRecDepth 100000 in
theorem c_X1_isSmall (G : GG) (h : AH) (a0 : Nat) (post : AH → Int32 → Prop) (hw : wp_X1_isSmall h a0 post) : MC G yX1_isSmall cX1_isSmall 1 (some .boolean) 0 0 h [.ref (G.1 + a0)] (pI post) := by
  refine MC.of (lv := [(0, .ref (G.1 + a0))]) (by decide) (Nat.le_of_ble_eq_true rfl) rfl fun p l e R s m args below meth c C hr hnm => ?_
  unfold wp_X1_isSmall at hw
  refine r_aload_n C dX1_isSmall_0 0 rfl ?_
  refine r_getI C fl_RX1_70_1 hw.1 (fun _ _ _ => rfl) dX1_isSmall_1 ?_
  replace hw := hw.2
  refine r_iconst (v := 3) C dX1_isSmall_4 (by decide) ?_
  refine r_icmp_gt C dX1_isSmall_5 26 (by decide) (fun hc => ?_) (fun hc => ?_)
  · replace hw := hw.1 hc
    refine r_iconst (v := 0) C dX1_isSmall_26 (by decide) ?_
    exact r_zret C hr dX1_isSmall_27 hw.1 hw.2
  · replace hw := hw.2 hc
    refine r_aload_n C dX1_isSmall_8 0 rfl ?_
    refine r_getI C fl_RX1_60_1 hw.1 (fun _ _ _ => rfl) dX1_isSmall_9 ?_
    replace hw := hw.2
    refine r_aload_n C dX1_isSmall_12 0 rfl ?_
    refine r_getI C fl_RX1_64_1 hw.1 (fun _ _ _ => rfl) dX1_isSmall_13 ?_
    replace hw := hw.2
    refine r_imul C dX1_isSmall_16 ?_
    refine r_bipush (v := 25) C dX1_isSmall_17 (by decide) ?_
    refine r_icmp_gt C dX1_isSmall_19 26 (by decide) (fun hc => ?_) (fun hc => ?_)
    · replace hw := hw.1 hc
      refine r_iconst (v := 0) C dX1_isSmall_26 (by decide) ?_
      exact r_zret C hr dX1_isSmall_27 hw.1 hw.2
    · replace hw := hw.2 hc
      refine r_iconst (v := 1) C dX1_isSmall_22 (by decide) ?_
      refine r_goto C dX1_isSmall_23 27 (by decide) ?_
      exact r_zret C hr dX1_isSmall_27 hw.1 hw.2
theorem dX1_raftNamed_0 : decode cX1_raftNamed 0 = .ok (.iconst 0, 1) := by decide +kernel
theorem dX1_raftNamed_1 : decode cX1_raftNamed 1 = .ok (.istore_n 2, 1) := by decide +kernel
theorem dX1_raftNamed_2 : decode cX1_raftNamed 2 = .ok (.iload_n 2, 1) := by decide +kernel
theorem dX1_raftNamed_3 : decode cX1_raftNamed 3 = .ok (.aload_n 0, 1) := by decide +kernel
theorem dX1_raftNamed_4 : decode cX1_raftNamed 4 = .ok (.getfield 70, 3) := by decide +kernel
theorem dX1_raftNamed_7 : decode cX1_raftNamed 7 = .ok (.if_icmp .ge 21, 3) := by decide +kernel
theorem dX1_raftNamed_10 : decode cX1_raftNamed 10 = .ok (.aload_n 0, 1) := by decide +kernel
theorem dX1_raftNamed_11 : decode cX1_raftNamed 11 = .ok (.getfield 22, 3) := by decide +kernel
theorem dX1_raftNamed_14 : decode cX1_raftNamed 14 = .ok (.iload_n 2, 1) := by decide +kernel
theorem dX1_raftNamed_15 : decode cX1_raftNamed 15 = .ok (.iaload, 1) := by decide +kernel
theorem dX1_raftNamed_16 : decode cX1_raftNamed 16 = .ok (.iload_n 1, 1) := by decide +kernel
theorem dX1_raftNamed_17 : decode cX1_raftNamed 17 = .ok (.if_icmp .ne 5, 3) := by decide +kernel
theorem dX1_raftNamed_20 : decode cX1_raftNamed 20 = .ok (.iload_n 2, 1) := by decide +kernel
theorem dX1_raftNamed_21 : decode cX1_raftNamed 21 = .ok (.ireturn, 1) := by decide +kernel
theorem dX1_raftNamed_22 : decode cX1_raftNamed 22 = .ok (.iinc 2 1, 3) := by decide +kernel
theorem dX1_raftNamed_25 : decode cX1_raftNamed 25 = .ok (.goto (-23), 3) := by decide +kernel
theorem dX1_raftNamed_28 : decode cX1_raftNamed 28 = .ok (.iconst (-1), 1) := by decide +kernel
theorem dX1_raftNamed_29 : decode cX1_raftNamed 29 = .ok (.ireturn, 1) := by decide +kernel
def wb_X1_raftNamed_2 (K2 : AH → Nat → Int32 → Int32 → Prop) (h : AH) (al0 : Nat) (xl1 : Int32) (xl2 : Int32)  (post : AH → Int32 → Prop) : Prop := (ob h al0 1) ∧ (((aI h al0 5) ≤ xl2 → (post h (-1))) ∧ (¬ (aI h al0 5) ≤ xl2 → ((ob h al0 1) ∧ (∃ rv1, aP h al0 6 = some rv1 ∧ ((ob h rv1 13) ∧ ((vp_in xl2 (aL h rv1)) ∧ ((¬ (aI h rv1 xl2.toNatClampNeg) = xl1 → (∀ iv2 : Int32, iv2 = xl2 + 1 → (K2 h al0 xl1 iv2))) ∧ ((aI h rv1 xl2.toNatClampNeg) = xl1 → (post h xl2)))))))))
set_option maxRecDepth 100000 in
theorem tb_X1_raftNamed_2 {G : GG} {p : Program} {l : Launch} {e : Env} {R : Room} {s : State} {m : MethodId} {args : Array Value} {below : List Frame} {meth : Method} {c : Code} {n0 s0 : Nat} {post : AH → Int32 → Prop} (C : Cx G p R s m args meth c 3 cX1_raftNamed RX1 n0 s0 0 0) (hr : meth.sig.returnType = (some .int)) {K2 : AH → Nat → Int32 → Int32 → Prop} (hK2 : ∀ (h : AH) (al0 : Nat) (xl1 : Int32) (xl2 : Int32), K2 h al0 xl1 xl2 → AW G p l e R s m args below meth c 3 (QM G (pI post) args s below n0 s0) 2 [(0, .ref (G.1 + al0)), (1, .int xl1), (2, .int xl2)] [] h) {h : AH} {al0 : Nat} {xl1 : Int32} {xl2 : Int32}  (hw : wb_X1_raftNamed_2 K2 h al0 xl1 xl2 post) : AW G p l e R s m args below meth c 3 (QM G (pI post) args s below n0 s0) 2 [(0, .ref (G.1 + al0)), (1, .int xl1), (2, .int xl2)] [] h := by
  unfold wb_X1_raftNamed_2 at hw
  refine r_iload_n C dX1_raftNamed_2 2 rfl ?_
  refine r_aload_n C dX1_raftNamed_3 0 rfl ?_
  refine r_getI C fl_RX1_70_1 hw.1 (fun _ _ _ => rfl) dX1_raftNamed_4 ?_
  replace hw := hw.2
  refine r_icmp_ge C dX1_raftNamed_7 28 (by decide) (fun hc => ?_) (fun hc => ?_)
  · replace hw := hw.1 hc
    refine r_iconst (v := (-1)) C dX1_raftNamed_28 (by decide) ?_
    exact r_iret C hr dX1_raftNamed_29 hw
  · replace hw := hw.2 hc
    refine r_aload_n C dX1_raftNamed_10 0 rfl ?_
    have hob := hw.1
    obtain ⟨rv1, hp, hw⟩ := hw.2
    refine r_getP C fl_RX1_22_1 hob hp (fun _ _ _ => rfl) dX1_raftNamed_11 ?_
    refine r_iload_n C dX1_raftNamed_14 2 rfl ?_
    refine r_iaload C hw.1 hw.2.1 dX1_raftNamed_15 ?_
    replace hw := hw.2.2
    refine r_iload_n C dX1_raftNamed_16 1 rfl ?_
    refine r_icmp_ne C dX1_raftNamed_17 22 (by decide) (fun hc => ?_) (fun hc => ?_)
    · replace hw := hw.1 hc
      obtain ⟨iv2, eiv2⟩ : ∃ q : Int32, q = xl2 + 1 := ⟨_, rfl⟩
      replace hw := hw iv2 eiv2
      refine r_iinc C dX1_raftNamed_22 2 rfl (by rw [eiv2]; rfl) [(2, .int iv2), (0, .ref (G.1 + al0)), (1, .int xl1)] (by decide) rfl ?_
      refine r_goto C dX1_raftNamed_25 2 (by decide) ?_
      refine r_sub [1, 2, 0] rfl ?_
      exact hK2 _ _ _ _ hw
    · replace hw := hw.2 hc
      refine r_iload_n C dX1_raftNamed_20 2 rfl ?_
      exact r_iret C hr dX1_raftNamed_21 hw
def wl_X1_raftNamed_2  (post : AH → Int32 → Prop) : Nat → AH → Nat → Int32 → Int32 → Prop
  | 0 => fun _ _ _ _ => False
  | n + 1 => fun h al0 xl1 xl2 => wb_X1_raftNamed_2  (wl_X1_raftNamed_2  post n) h al0 xl1 xl2 post
theorem tl_X1_raftNamed_2 {G : GG} {p : Program} {l : Launch} {e : Env} {R : Room} {s : State} {m : MethodId} {args : Array Value} {below : List Frame} {meth : Method} {c : Code} {n0 s0 : Nat} {post : AH → Int32 → Prop} (C : Cx G p R s m args meth c 3 cX1_raftNamed RX1 n0 s0 0 0) (hr : meth.sig.returnType = (some .int))   : ∀ (n : Nat) (h : AH) (al0 : Nat) (xl1 : Int32) (xl2 : Int32), wl_X1_raftNamed_2  post n h al0 xl1 xl2 → AW G p l e R s m args below meth c 3 (QM G (pI post) args s below n0 s0) 2 [(0, .ref (G.1 + al0)), (1, .int xl1), (2, .int xl2)] [] h := by
  intro n
  induction n with
  | zero => intro h al0 xl1 xl2 hw; exact hw.elim
  | succ n ih => intro h al0 xl1 xl2 hw; exact tb_X1_raftNamed_2 C hr  ih hw
def wp_X1_raftNamed (h : AH) (a0 : Nat) (x1 : Int32) (post : AH → Int32 → Prop) : Prop := ∃ n, wl_X1_raftNamed_2  post n h a0 x1 0
set_option maxRecDepth 100000 in
theorem c_X1_raftNamed (G : GG) (h : AH) (a0 : Nat) (x1 : Int32) (post : AH → Int32 → Prop) (hw : wp_X1_raftNamed h a0 x1 post) : MC G yX1_raftNamed cX1_raftNamed 3 (some .int) 0 0 h [.ref (G.1 + a0), .int x1] (pI post) := by
  refine MC.of (lv := [(0, .ref (G.1 + a0)), (1, .int x1)]) (by decide) (Nat.le_of_ble_eq_true rfl) rfl fun p l e R s m args below meth c C hr hnm => ?_
  unfold wp_X1_raftNamed at hw
  refine r_iconst (v := 0) C dX1_raftNamed_0 (by decide) ?_
  refine r_istore_n C dX1_raftNamed_1 [(2, .int 0), (0, .ref (G.1 + a0)), (1, .int x1)] (by decide) rfl ?_
  refine r_sub [1, 2, 0] rfl ?_
  obtain ⟨n, hw⟩ := hw
  exact tl_X1_raftNamed_2 C hr  n _ _ _ _ hw
theorem dX1_hoursCarrying_0 : decode cX1_hoursCarrying 0 = .ok (.iconst 0, 1) := by decide +kernel
theorem dX1_hoursCarrying_1 : decode cX1_hoursCarrying 1 = .ok (.istore 4, 2) := by decide +kernel
theorem dX1_hoursCarrying_3 : decode cX1_hoursCarrying 3 = .ok (.iconst 0, 1) := by decide +kernel
theorem dX1_hoursCarrying_4 : decode cX1_hoursCarrying 4 = .ok (.istore 5, 2) := by decide +kernel
theorem dX1_hoursCarrying_6 : decode cX1_hoursCarrying 6 = .ok (.iload 5, 2) := by decide +kernel
theorem dX1_hoursCarrying_8 : decode cX1_hoursCarrying 8 = .ok (.bipush 24, 2) := by decide +kernel
theorem dX1_hoursCarrying_10 : decode cX1_hoursCarrying 10 = .ok (.if_icmp .ge 29, 3) := by decide +kernel
theorem dX1_hoursCarrying_13 : decode cX1_hoursCarrying 13 = .ok (.aload_n 0, 1) := by decide +kernel
theorem dX1_hoursCarrying_14 : decode cX1_hoursCarrying 14 = .ok (.iload_n 1, 1) := by decide +kernel
theorem dX1_hoursCarrying_15 : decode cX1_hoursCarrying 15 = .ok (.lload_n 2, 1) := by decide +kernel
theorem dX1_hoursCarrying_16 : decode cX1_hoursCarrying 16 = .ok (.iload 5, 2) := by decide +kernel
theorem dX1_hoursCarrying_18 : decode cX1_hoursCarrying 18 = .ok (.invokevirtual 114, 3) := by decide +kernel
theorem dX1_hoursCarrying_21 : decode cX1_hoursCarrying 21 = .ok (.ifCond .eq 12, 3) := by decide +kernel
theorem dX1_hoursCarrying_24 : decode cX1_hoursCarrying 24 = .ok (.iload 4, 2) := by decide +kernel
theorem dX1_hoursCarrying_26 : decode cX1_hoursCarrying 26 = .ok (.iconst 1, 1) := by decide +kernel
theorem dX1_hoursCarrying_27 : decode cX1_hoursCarrying 27 = .ok (.iload 5, 2) := by decide +kernel
theorem dX1_hoursCarrying_29 : decode cX1_hoursCarrying 29 = .ok (.ishl, 1) := by decide +kernel
theorem dX1_hoursCarrying_30 : decode cX1_hoursCarrying 30 = .ok (.ior, 1) := by decide +kernel
theorem dX1_hoursCarrying_31 : decode cX1_hoursCarrying 31 = .ok (.istore 4, 2) := by decide +kernel
theorem dX1_hoursCarrying_33 : decode cX1_hoursCarrying 33 = .ok (.iinc 5 1, 3) := by decide +kernel
theorem dX1_hoursCarrying_36 : decode cX1_hoursCarrying 36 = .ok (.goto (-30), 3) := by decide +kernel
theorem dX1_hoursCarrying_39 : decode cX1_hoursCarrying 39 = .ok (.iload 4, 2) := by decide +kernel
theorem dX1_hoursCarrying_41 : decode cX1_hoursCarrying 41 = .ok (.ireturn, 1) := by decide +kernel
def wb_X1_hoursCarrying_33 (K6 : AH → Nat → Int32 → Int64 → Int32 → Int32 → Prop) (h : AH) (al0 : Nat) (xl1 : Int32) (zl2 : Int64) (xl4 : Int32) (xl5 : Int32)  (post : AH → Int32 → Prop) : Prop := ∀ iv1 : Int32, iv1 = xl5 + 1 → (K6 h al0 xl1 zl2 xl4 iv1)
set_option maxRecDepth 100000 in
theorem tb_X1_hoursCarrying_33 {G : GG} {p : Program} {l : Launch} {e : Env} {R : Room} {s : State} {m : MethodId} {args : Array Value} {below : List Frame} {meth : Method} {c : Code} {n0 s0 : Nat} {post : AH → Int32 → Prop} (C : Cx G p R s m args meth c 6 cX1_hoursCarrying RX1 n0 s0 1 25) (hr : meth.sig.returnType = (some .int)) {K6 : AH → Nat → Int32 → Int64 → Int32 → Int32 → Prop} (hK6 : ∀ (h : AH) (al0 : Nat) (xl1 : Int32) (zl2 : Int64) (xl4 : Int32) (xl5 : Int32), K6 h al0 xl1 zl2 xl4 xl5 → AW G p l e R s m args below meth c 6 (QM G (pI post) args s below n0 s0) 6 [(0, .ref (G.1 + al0)), (1, .int xl1), (2, .long zl2), (4, .int xl4), (5, .int xl5)] [] h) {h : AH} {al0 : Nat} {xl1 : Int32} {zl2 : Int64} {xl4 : Int32} {xl5 : Int32}  (hw : wb_X1_hoursCarrying_33 K6 h al0 xl1 zl2 xl4 xl5 post) : AW G p l e R s m args below meth c 6 (QM G (pI post) args s below n0 s0) 33 [(0, .ref (G.1 + al0)), (1, .int xl1), (2, .long zl2), (4, .int xl4), (5, .int xl5)] [] h := by
  unfold wb_X1_hoursCarrying_33 at hw
  obtain ⟨iv1, eiv1⟩ : ∃ q : Int32, q = xl5 + 1 := ⟨_, rfl⟩
  replace hw := hw iv1 eiv1
  refine r_iinc C dX1_hoursCarrying_33 4 rfl (by rw [eiv1]; rfl) [(5, .int iv1), (0, .ref (G.1 + al0)), (1, .int xl1), (2, .long zl2), (4, .int xl4)] (by decide) rfl ?_
  refine r_goto C dX1_hoursCarrying_36 6 (by decide) ?_
  refine r_sub [1, 2, 3, 4, 0] rfl ?_
  exact hK6 _ _ _ _ _ _ hw
def wb_X1_hoursCarrying_6 (K6 : AH → Nat → Int32 → Int64 → Int32 → Int32 → Prop) (h : AH) (al0 : Nat) (xl1 : Int32) (zl2 : Int64) (xl4 : Int32) (xl5 : Int32)  (post : AH → Int32 → Prop) : Prop := (24 ≤ xl5 → (post h xl4)) ∧ (¬ 24 ≤ xl5 → ((ob h al0 1) ∧ wp_X1_carries h al0 xl1 zl2 xl5 (fun hv1 iv2 => (iv2 = 0 → (wb_X1_hoursCarrying_33 K6 hv1 al0 xl1 zl2 xl4 xl5 post)) ∧ (¬ iv2 = 0 → (∀ iv3 : Int32, iv3 = xl4 ||| ((1 : Int32) <<< (xl5 &&& 31)) → (wb_X1_hoursCarrying_33 K6 hv1 al0 xl1 zl2 iv3 xl5 post))))))
set_option maxRecDepth 100000 in
theorem tb_X1_hoursCarrying_6 {G : GG} {p : Program} {l : Launch} {e : Env} {R : Room} {s : State} {m : MethodId} {args : Array Value} {below : List Frame} {meth : Method} {c : Code} {n0 s0 : Nat} {post : AH → Int32 → Prop} (C : Cx G p R s m args meth c 6 cX1_hoursCarrying RX1 n0 s0 1 25) (hr : meth.sig.returnType = (some .int)) {K6 : AH → Nat → Int32 → Int64 → Int32 → Int32 → Prop} (hK6 : ∀ (h : AH) (al0 : Nat) (xl1 : Int32) (zl2 : Int64) (xl4 : Int32) (xl5 : Int32), K6 h al0 xl1 zl2 xl4 xl5 → AW G p l e R s m args below meth c 6 (QM G (pI post) args s below n0 s0) 6 [(0, .ref (G.1 + al0)), (1, .int xl1), (2, .long zl2), (4, .int xl4), (5, .int xl5)] [] h) {h : AH} {al0 : Nat} {xl1 : Int32} {zl2 : Int64} {xl4 : Int32} {xl5 : Int32}  (hw : wb_X1_hoursCarrying_6 K6 h al0 xl1 zl2 xl4 xl5 post) : AW G p l e R s m args below meth c 6 (QM G (pI post) args s below n0 s0) 6 [(0, .ref (G.1 + al0)), (1, .int xl1), (2, .long zl2), (4, .int xl4), (5, .int xl5)] [] h := by
  unfold wb_X1_hoursCarrying_6 at hw
  refine r_iload C dX1_hoursCarrying_6 4 rfl ?_
  refine r_bipush (v := 24) C dX1_hoursCarrying_8 (by decide) ?_
  refine r_icmp_ge C dX1_hoursCarrying_10 39 (by decide) (fun hc => ?_) (fun hc => ?_)
  · replace hw := hw.1 hc
    refine r_iload C dX1_hoursCarrying_39 3 rfl ?_
    exact r_iret C hr dX1_hoursCarrying_41 hw
  · replace hw := hw.2 hc
    refine r_aload_n C dX1_hoursCarrying_13 0 rfl ?_
    refine r_iload_n C dX1_hoursCarrying_14 1 rfl ?_
    refine r_lload_n C dX1_hoursCarrying_15 2 rfl ?_
    refine r_iload C dX1_hoursCarrying_16 4 rfl ?_
    have hob := hw.1
    replace hw := hw.2
    refine r_callV C (As := [.int xl1, .long zl2, .int xl5]) (rest := []) (c_X1_carries G h al0 xl1 zl2 xl5 _ hw) yl_X1_carries (gm4 (List.mem_of_getElem? (i := 153) rfl) rfl) (gm4 (List.mem_of_getElem? (i := 128) rfl) rfl) (ci := 1) rfl (by decide) (gm4 (List.mem_of_getElem? (i := 129) rfl) rfl) hob (by decide) rfl (Nat.le_of_ble_eq_true rfl) dX1_hoursCarrying_18 rfl (kI fun hv1 iv2 hw => ?_)
    refine r_if_eq C dX1_hoursCarrying_21 33 (by decide) (fun hc => ?_) (fun hc => ?_)
    · replace hw := hw.1 hc
      refine r_sub [0, 1, 2, 3, 4] rfl ?_
      exact tb_X1_hoursCarrying_33 C hr hK6 hw
    · replace hw := hw.2 hc
      refine r_iload C dX1_hoursCarrying_24 3 rfl ?_
      refine r_iconst (v := 1) C dX1_hoursCarrying_26 (by decide) ?_
      refine r_iload C dX1_hoursCarrying_27 4 rfl ?_
      refine r_ishl C dX1_hoursCarrying_29 ?_
      refine r_ior C dX1_hoursCarrying_30 ?_
      refine r_topi fun iv3 eiv3 => ?_
      replace hw := hw iv3 eiv3
      refine r_istore C dX1_hoursCarrying_31 [(4, .int iv3), (0, .ref (G.1 + al0)), (1, .int xl1), (2, .long zl2), (5, .int xl5)] (by decide) rfl ?_
      refine r_sub [1, 2, 3, 0, 4] rfl ?_
      exact tb_X1_hoursCarrying_33 C hr hK6 hw
def wl_X1_hoursCarrying_6  (post : AH → Int32 → Prop) : Nat → AH → Nat → Int32 → Int64 → Int32 → Int32 → Prop
  | 0 => fun _ _ _ _ _ _ => False
  | n + 1 => fun h al0 xl1 zl2 xl4 xl5 => wb_X1_hoursCarrying_6  (wl_X1_hoursCarrying_6  post n) h al0 xl1 zl2 xl4 xl5 post
theorem tl_X1_hoursCarrying_6 {G : GG} {p : Program} {l : Launch} {e : Env} {R : Room} {s : State} {m : MethodId} {args : Array Value} {below : List Frame} {meth : Method} {c : Code} {n0 s0 : Nat} {post : AH → Int32 → Prop} (C : Cx G p R s m args meth c 6 cX1_hoursCarrying RX1 n0 s0 1 25) (hr : meth.sig.returnType = (some .int))   : ∀ (n : Nat) (h : AH) (al0 : Nat) (xl1 : Int32) (zl2 : Int64) (xl4 : Int32) (xl5 : Int32), wl_X1_hoursCarrying_6  post n h al0 xl1 zl2 xl4 xl5 → AW G p l e R s m args below meth c 6 (QM G (pI post) args s below n0 s0) 6 [(0, .ref (G.1 + al0)), (1, .int xl1), (2, .long zl2), (4, .int xl4), (5, .int xl5)] [] h := by
  intro n
  induction n with
  | zero => intro h al0 xl1 zl2 xl4 xl5 hw; exact hw.elim
  | succ n ih => intro h al0 xl1 zl2 xl4 xl5 hw; exact tb_X1_hoursCarrying_6 C hr  ih hw
def wp_X1_hoursCarrying (h : AH) (a0 : Nat) (x1 : Int32) (z2 : Int64) (post : AH → Int32 → Prop) : Prop := ∃ n, wl_X1_hoursCarrying_6  post n h a0 x1 z2 0 0
set_option maxRecDepth 100000 in
theorem c_X1_hoursCarrying (G : GG) (h : AH) (a0 : Nat) (x1 : Int32) (z2 : Int64) (post : AH → Int32 → Prop) (hw : wp_X1_hoursCarrying h a0 x1 z2 post) : MC G yX1_hoursCarrying cX1_hoursCarrying 6 (some .int) 1 25 h [.ref (G.1 + a0), .int x1, .long z2] (pI post) := by
  refine MC.of (lv := [(0, .ref (G.1 + a0)), (1, .int x1), (2, .long z2)]) (by decide) (Nat.le_of_ble_eq_true rfl) rfl fun p l e R s m args below meth c C hr hnm => ?_
  unfold wp_X1_hoursCarrying at hw
  refine r_iconst (v := 0) C dX1_hoursCarrying_0 (by decide) ?_
  refine r_istore C dX1_hoursCarrying_1 [(4, .int 0), (0, .ref (G.1 + a0)), (1, .int x1), (2, .long z2)] (by decide) rfl ?_
  refine r_iconst (v := 0) C dX1_hoursCarrying_3 (by decide) ?_
  refine r_istore C dX1_hoursCarrying_4 [(5, .int 0), (4, .int 0), (0, .ref (G.1 + a0)), (1, .int x1), (2, .long z2)] (by decide) rfl ?_
  refine r_sub [2, 3, 4, 1, 0] rfl ?_
  obtain ⟨n, hw⟩ := hw
  exact tl_X1_hoursCarrying_6 C hr  n _ _ _ _ _ _ hw
theorem dX1_isUneven_0 : decode cX1_isUneven 0 = .ok (.iconst 0, 1) := by decide +kernel
theorem dX1_isUneven_1 : decode cX1_isUneven 1 = .ok (.istore_n 3, 1) := by decide +kernel
theorem dX1_isUneven_2 : decode cX1_isUneven 2 = .ok (.iload_n 3, 1) := by decide +kernel
theorem dX1_isUneven_3 : decode cX1_isUneven 3 = .ok (.iconst 1, 1) := by decide +kernel
theorem dX1_isUneven_4 : decode cX1_isUneven 4 = .ok (.iadd, 1) := by decide +kernel
theorem dX1_isUneven_5 : decode cX1_isUneven 5 = .ok (.bipush 10, 2) := by decide +kernel
theorem dX1_isUneven_7 : decode cX1_isUneven 7 = .ok (.if_icmp .ge 47, 3) := by decide +kernel
theorem dX1_isUneven_10 : decode cX1_isUneven 10 = .ok (.lload_n 1, 1) := by decide +kernel
theorem dX1_isUneven_11 : decode cX1_isUneven 11 = .ok (.aload_n 0, 1) := by decide +kernel
theorem dX1_isUneven_12 : decode cX1_isUneven 12 = .ok (.getfield 15, 3) := by decide +kernel
theorem dX1_isUneven_15 : decode cX1_isUneven 15 = .ok (.iload_n 3, 1) := by decide +kernel
theorem dX1_isUneven_16 : decode cX1_isUneven 16 = .ok (.laload, 1) := by decide +kernel
theorem dX1_isUneven_17 : decode cX1_isUneven 17 = .ok (.land, 1) := by decide +kernel
theorem dX1_isUneven_18 : decode cX1_isUneven 18 = .ok (.lconst 0, 1) := by decide +kernel
theorem dX1_isUneven_19 : decode cX1_isUneven 19 = .ok (.lcmp, 1) := by decide +kernel
theorem dX1_isUneven_20 : decode cX1_isUneven 20 = .ok (.ifCond .eq 28, 3) := by decide +kernel
theorem dX1_isUneven_23 : decode cX1_isUneven 23 = .ok (.lload_n 1, 1) := by decide +kernel
theorem dX1_isUneven_24 : decode cX1_isUneven 24 = .ok (.aload_n 0, 1) := by decide +kernel
theorem dX1_isUneven_25 : decode cX1_isUneven 25 = .ok (.getfield 15, 3) := by decide +kernel
theorem dX1_isUneven_28 : decode cX1_isUneven 28 = .ok (.iload_n 3, 1) := by decide +kernel
theorem dX1_isUneven_29 : decode cX1_isUneven 29 = .ok (.iconst 1, 1) := by decide +kernel
theorem dX1_isUneven_30 : decode cX1_isUneven 30 = .ok (.iadd, 1) := by decide +kernel
theorem dX1_isUneven_31 : decode cX1_isUneven 31 = .ok (.laload, 1) := by decide +kernel
theorem dX1_isUneven_32 : decode cX1_isUneven 32 = .ok (.ldc2_w 112, 3) := by decide +kernel
theorem dX1_isUneven_35 : decode cX1_isUneven 35 = .ok (.lxor, 1) := by decide +kernel
theorem dX1_isUneven_36 : decode cX1_isUneven 36 = .ok (.land, 1) := by decide +kernel
theorem dX1_isUneven_37 : decode cX1_isUneven 37 = .ok (.lconst 0, 1) := by decide +kernel
theorem dX1_isUneven_38 : decode cX1_isUneven 38 = .ok (.lcmp, 1) := by decide +kernel
theorem dX1_isUneven_39 : decode cX1_isUneven 39 = .ok (.ifCond .eq 7, 3) := by decide +kernel
theorem dX1_isUneven_42 : decode cX1_isUneven 42 = .ok (.iconst 1, 1) := by decide +kernel
theorem dX1_isUneven_43 : decode cX1_isUneven 43 = .ok (.goto 4, 3) := by decide +kernel
theorem dX1_isUneven_46 : decode cX1_isUneven 46 = .ok (.iconst 0, 1) := by decide +kernel
theorem dX1_isUneven_47 : decode cX1_isUneven 47 = .ok (.ireturn, 1) := by decide +kernel
theorem dX1_isUneven_48 : decode cX1_isUneven 48 = .ok (.iinc 3 1, 3) := by decide +kernel
theorem dX1_isUneven_51 : decode cX1_isUneven 51 = .ok (.goto (-49), 3) := by decide +kernel
theorem dX1_isUneven_54 : decode cX1_isUneven 54 = .ok (.iconst 0, 1) := by decide +kernel
theorem dX1_isUneven_55 : decode cX1_isUneven 55 = .ok (.ireturn, 1) := by decide +kernel
def wb_X1_isUneven_2 (K2 : AH → Nat → Int64 → Int32 → Prop) (h : AH) (al0 : Nat) (zl1 : Int64) (xl3 : Int32)  (post : AH → Int32 → Prop) : Prop := (10 ≤ (xl3 + (1 : Int32)) → (((0 : Int32) = 0 ∨ (0 : Int32) = 1) ∧ post h 0)) ∧ (¬ 10 ≤ (xl3 + (1 : Int32)) → ((ob h al0 1) ∧ (∃ rv1, aP h al0 3 = some rv1 ∧ ((ob h rv1 14) ∧ ((vp_in xl3 (aL h rv1)) ∧ (((lg_cmp (zl1 &&& (aJ h rv1 xl3.toNatClampNeg)) 0) = 0 → (∀ iv2 : Int32, iv2 = xl3 + 1 → (K2 h al0 zl1 iv2))) ∧ (¬ (lg_cmp (zl1 &&& (aJ h rv1 xl3.toNatClampNeg)) 0) = 0 → ((ob h al0 1) ∧ (∃ rv3, aP h al0 3 = some rv3 ∧ ((ob h rv3 14) ∧ ((vp_in (xl3 + (1 : Int32)) (aL h rv3)) ∧ (((lg_cmp (zl1 &&& ((aJ h rv3 (xl3 + (1 : Int32)).toNatClampNeg) ^^^ (-1 : Int64))) 0) = 0 → (((0 : Int32) = 0 ∨ (0 : Int32) = 1) ∧ post h 0)) ∧ (¬ (lg_cmp (zl1 &&& ((aJ h rv3 (xl3 + (1 : Int32)).toNatClampNeg) ^^^ (-1 : Int64))) 0) = 0 → (((1 : Int32) = 0 ∨ (1 : Int32) = 1) ∧ post h 1))))))))))))))
set_option maxRecDepth 100000 in
theorem tb_X1_isUneven_2 {G : GG} {p : Program} {l : Launch} {e : Env} {R : Room} {s : State} {m : MethodId} {args : Array Value} {below : List Frame} {meth : Method} {c : Code} {n0 s0 : Nat} {post : AH → Int32 → Prop} (C : Cx G p R s m args meth c 4 cX1_isUneven RX1 n0 s0 0 0) (hr : meth.sig.returnType = (some .boolean)) {K2 : AH → Nat → Int64 → Int32 → Prop} (hK2 : ∀ (h : AH) (al0 : Nat) (zl1 : Int64) (xl3 : Int32), K2 h al0 zl1 xl3 → AW G p l e R s m args below meth c 4 (QM G (pI post) args s below n0 s0) 2 [(0, .ref (G.1 + al0)), (1, .long zl1), (3, .int xl3)] [] h) {h : AH} {al0 : Nat} {zl1 : Int64} {xl3 : Int32}  (hw : wb_X1_isUneven_2 K2 h al0 zl1 xl3 post) : AW G p l e R s m args below meth c 4 (QM G (pI post) args s below n0 s0) 2 [(0, .ref (G.1 + al0)), (1, .long zl1), (3, .int xl3)] [] h := by
  unfold wb_X1_isUneven_2 at hw
  refine r_iload_n C dX1_isUneven_2 2 rfl ?_
  refine r_iconst (v := 1) C dX1_isUneven_3 (by decide) ?_
  refine r_iadd C dX1_isUneven_4 ?_
  refine r_bipush (v := 10) C dX1_isUneven_5 (by decide) ?_
  refine r_icmp_ge C dX1_isUneven_7 54 (by decide) (fun hc => ?_) (fun hc => ?_)
  · replace hw := hw.1 hc
    refine r_iconst (v := 0) C dX1_isUneven_54 (by decide) ?_
    exact r_zret C hr dX1_isUneven_55 hw.1 hw.2
  · replace hw := hw.2 hc
    refine r_lload_n C dX1_isUneven_10 1 rfl ?_
    refine r_aload_n C dX1_isUneven_11 0 rfl ?_
    have hob := hw.1
    obtain ⟨rv1, hp, hw⟩ := hw.2
    refine r_getP C fl_RX1_15_1 hob hp (fun _ _ _ => rfl) dX1_isUneven_12 ?_
    refine r_iload_n C dX1_isUneven_15 2 rfl ?_
    refine r_laload C hw.1 hw.2.1 dX1_isUneven_16 ?_
    replace hw := hw.2.2
    refine r_land C dX1_isUneven_17 ?_
    refine r_lconst (v := 0) C dX1_isUneven_18 (by decide) ?_
    refine r_lcmp C dX1_isUneven_19 ?_
    refine r_if_eq C dX1_isUneven_20 48 (by decide) (fun hc => ?_) (fun hc => ?_)
    · replace hw := hw.1 hc
      obtain ⟨iv2, eiv2⟩ : ∃ q : Int32, q = xl3 + 1 := ⟨_, rfl⟩
      replace hw := hw iv2 eiv2
      refine r_iinc C dX1_isUneven_48 2 rfl (by rw [eiv2]; rfl) [(3, .int iv2), (0, .ref (G.1 + al0)), (1, .long zl1)] (by decide) rfl ?_
      refine r_goto C dX1_isUneven_51 2 (by decide) ?_
      refine r_sub [1, 2, 0] rfl ?_
      exact hK2 _ _ _ _ hw
    · replace hw := hw.2 hc
      refine r_lload_n C dX1_isUneven_23 1 rfl ?_
      refine r_aload_n C dX1_isUneven_24 0 rfl ?_
      have hob := hw.1
      obtain ⟨rv3, hp, hw⟩ := hw.2
      refine r_getP C fl_RX1_15_1 hob hp (fun _ _ _ => rfl) dX1_isUneven_25 ?_
      refine r_iload_n C dX1_isUneven_28 2 rfl ?_
      refine r_iconst (v := 1) C dX1_isUneven_29 (by decide) ?_
      refine r_iadd C dX1_isUneven_30 ?_
      refine r_laload C hw.1 hw.2.1 dX1_isUneven_31 ?_
      replace hw := hw.2.2
      refine r_ldc2 (v := -1) C (gm4 (List.mem_of_getElem? (i := 131) rfl) rfl) dX1_isUneven_32 ?_
      refine r_lxor C dX1_isUneven_35 ?_
      refine r_land C dX1_isUneven_36 ?_
      refine r_lconst (v := 0) C dX1_isUneven_37 (by decide) ?_
      refine r_lcmp C dX1_isUneven_38 ?_
      refine r_if_eq C dX1_isUneven_39 46 (by decide) (fun hc => ?_) (fun hc => ?_)
      · replace hw := hw.1 hc
        refine r_iconst (v := 0) C dX1_isUneven_46 (by decide) ?_
        exact r_zret C hr dX1_isUneven_47 hw.1 hw.2
      · replace hw := hw.2 hc
        refine r_iconst (v := 1) C dX1_isUneven_42 (by decide) ?_
        refine r_goto C dX1_isUneven_43 47 (by decide) ?_
        exact r_zret C hr dX1_isUneven_47 hw.1 hw.2
def wl_X1_isUneven_2  (post : AH → Int32 → Prop) : Nat → AH → Nat → Int64 → Int32 → Prop
  | 0 => fun _ _ _ _ => False
  | n + 1 => fun h al0 zl1 xl3 => wb_X1_isUneven_2  (wl_X1_isUneven_2  post n) h al0 zl1 xl3 post
theorem tl_X1_isUneven_2 {G : GG} {p : Program} {l : Launch} {e : Env} {R : Room} {s : State} {m : MethodId} {args : Array Value} {below : List Frame} {meth : Method} {c : Code} {n0 s0 : Nat} {post : AH → Int32 → Prop} (C : Cx G p R s m args meth c 4 cX1_isUneven RX1 n0 s0 0 0) (hr : meth.sig.returnType = (some .boolean))   : ∀ (n : Nat) (h : AH) (al0 : Nat) (zl1 : Int64) (xl3 : Int32), wl_X1_isUneven_2  post n h al0 zl1 xl3 → AW G p l e R s m args below meth c 4 (QM G (pI post) args s below n0 s0) 2 [(0, .ref (G.1 + al0)), (1, .long zl1), (3, .int xl3)] [] h := by
  intro n
  induction n with
  | zero => intro h al0 zl1 xl3 hw; exact hw.elim
  | succ n ih => intro h al0 zl1 xl3 hw; exact tb_X1_isUneven_2 C hr  ih hw
def wp_X1_isUneven (h : AH) (a0 : Nat) (z1 : Int64) (post : AH → Int32 → Prop) : Prop := ∃ n, wl_X1_isUneven_2  post n h a0 z1 0
set_option maxRecDepth 100000 in
theorem c_X1_isUneven (G : GG) (h : AH) (a0 : Nat) (z1 : Int64) (post : AH → Int32 → Prop) (hw : wp_X1_isUneven h a0 z1 post) : MC G yX1_isUneven cX1_isUneven 4 (some .boolean) 0 0 h [.ref (G.1 + a0), .long z1] (pI post) := by
  refine MC.of (lv := [(0, .ref (G.1 + a0)), (1, .long z1)]) (by decide) (Nat.le_of_ble_eq_true rfl) rfl fun p l e R s m args below meth c C hr hnm => ?_
  unfold wp_X1_isUneven at hw
  refine r_iconst (v := 0) C dX1_isUneven_0 (by decide) ?_
  refine r_istore_n C dX1_isUneven_1 [(3, .int 0), (0, .ref (G.1 + a0)), (1, .long z1)] (by decide) rfl ?_
  refine r_sub [1, 2, 0] rfl ?_
  obtain ⟨n, hw⟩ := hw
  exact tl_X1_isUneven_2 C hr  n _ _ _ _ hw
theorem dX4_hangingWith_0 : decode cX4_hangingWith 0 = .ok (.iconst 1, 1) := by decide +kernel
theorem dX4_hangingWith_1 : decode cX4_hangingWith 1 = .ok (.iload_n 1, 1) := by decide +kernel
theorem dX4_hangingWith_2 : decode cX4_hangingWith 2 = .ok (.ishl, 1) := by decide +kernel
theorem dX4_hangingWith_3 : decode cX4_hangingWith 3 = .ok (.istore_n 3, 1) := by decide +kernel
theorem dX4_hangingWith_4 : decode cX4_hangingWith 4 = .ok (.iconst 0, 1) := by decide +kernel
theorem dX4_hangingWith_5 : decode cX4_hangingWith 5 = .ok (.istore 4, 2) := by decide +kernel
theorem dX4_hangingWith_7 : decode cX4_hangingWith 7 = .ok (.iload 4, 2) := by decide +kernel
theorem dX4_hangingWith_9 : decode cX4_hangingWith 9 = .ok (.aload_n 0, 1) := by decide +kernel
theorem dX4_hangingWith_10 : decode cX4_hangingWith 10 = .ok (.getfield 27, 3) := by decide +kernel
theorem dX4_hangingWith_13 : decode cX4_hangingWith 13 = .ok (.if_icmp .ge 81, 3) := by decide +kernel
theorem dX4_hangingWith_16 : decode cX4_hangingWith 16 = .ok (.iload_n 3, 1) := by decide +kernel
theorem dX4_hangingWith_17 : decode cX4_hangingWith 17 = .ok (.istore 5, 2) := by decide +kernel
theorem dX4_hangingWith_19 : decode cX4_hangingWith 19 = .ok (.iconst 0, 1) := by decide +kernel
theorem dX4_hangingWith_20 : decode cX4_hangingWith 20 = .ok (.istore 6, 2) := by decide +kernel
theorem dX4_hangingWith_22 : decode cX4_hangingWith 22 = .ok (.iload 6, 2) := by decide +kernel
theorem dX4_hangingWith_24 : decode cX4_hangingWith 24 = .ok (.aload_n 0, 1) := by decide +kernel
theorem dX4_hangingWith_25 : decode cX4_hangingWith 25 = .ok (.getfield 27, 3) := by decide +kernel
theorem dX4_hangingWith_28 : decode cX4_hangingWith 28 = .ok (.if_icmp .ge 51, 3) := by decide +kernel
theorem dX4_hangingWith_31 : decode cX4_hangingWith 31 = .ok (.iconst 1, 1) := by decide +kernel
theorem dX4_hangingWith_32 : decode cX4_hangingWith 32 = .ok (.aload_n 0, 1) := by decide +kernel
theorem dX4_hangingWith_33 : decode cX4_hangingWith 33 = .ok (.getfield 9, 3) := by decide +kernel
theorem dX4_hangingWith_36 : decode cX4_hangingWith 36 = .ok (.iload 6, 2) := by decide +kernel
theorem dX4_hangingWith_38 : decode cX4_hangingWith 38 = .ok (.iaload, 1) := by decide +kernel
theorem dX4_hangingWith_39 : decode cX4_hangingWith 39 = .ok (.ishl, 1) := by decide +kernel
theorem dX4_hangingWith_40 : decode cX4_hangingWith 40 = .ok (.iconst 1, 1) := by decide +kernel
theorem dX4_hangingWith_41 : decode cX4_hangingWith 41 = .ok (.aload_n 0, 1) := by decide +kernel
theorem dX4_hangingWith_42 : decode cX4_hangingWith 42 = .ok (.getfield 15, 3) := by decide +kernel
theorem dX4_hangingWith_45 : decode cX4_hangingWith 45 = .ok (.iload 6, 2) := by decide +kernel
theorem dX4_hangingWith_47 : decode cX4_hangingWith 47 = .ok (.iaload, 1) := by decide +kernel
theorem dX4_hangingWith_48 : decode cX4_hangingWith 48 = .ok (.ishl, 1) := by decide +kernel
theorem dX4_hangingWith_49 : decode cX4_hangingWith 49 = .ok (.ior, 1) := by decide +kernel
theorem dX4_hangingWith_50 : decode cX4_hangingWith 50 = .ok (.istore 7, 2) := by decide +kernel
theorem dX4_hangingWith_52 : decode cX4_hangingWith 52 = .ok (.iload_n 2, 1) := by decide +kernel
theorem dX4_hangingWith_53 : decode cX4_hangingWith 53 = .ok (.iload 6, 2) := by decide +kernel
theorem dX4_hangingWith_55 : decode cX4_hangingWith 55 = .ok (.ishr, 1) := by decide +kernel
theorem dX4_hangingWith_56 : decode cX4_hangingWith 56 = .ok (.iconst 1, 1) := by decide +kernel
theorem dX4_hangingWith_57 : decode cX4_hangingWith 57 = .ok (.iand, 1) := by decide +kernel
theorem dX4_hangingWith_58 : decode cX4_hangingWith 58 = .ok (.ifCond .ne 15, 3) := by decide +kernel
theorem dX4_hangingWith_61 : decode cX4_hangingWith 61 = .ok (.iload_n 3, 1) := by decide +kernel
theorem dX4_hangingWith_62 : decode cX4_hangingWith 62 = .ok (.iload 7, 2) := by decide +kernel
theorem dX4_hangingWith_64 : decode cX4_hangingWith 64 = .ok (.iand, 1) := by decide +kernel
theorem dX4_hangingWith_65 : decode cX4_hangingWith 65 = .ok (.ifCond .eq 8, 3) := by decide +kernel
theorem dX4_hangingWith_68 : decode cX4_hangingWith 68 = .ok (.iload_n 3, 1) := by decide +kernel
theorem dX4_hangingWith_69 : decode cX4_hangingWith 69 = .ok (.iload 7, 2) := by decide +kernel
theorem dX4_hangingWith_71 : decode cX4_hangingWith 71 = .ok (.ior, 1) := by decide +kernel
theorem dX4_hangingWith_72 : decode cX4_hangingWith 72 = .ok (.istore_n 3, 1) := by decide +kernel
theorem dX4_hangingWith_73 : decode cX4_hangingWith 73 = .ok (.iinc 6 1, 3) := by decide +kernel
theorem dX4_hangingWith_76 : decode cX4_hangingWith 76 = .ok (.goto (-54), 3) := by decide +kernel
theorem dX4_hangingWith_79 : decode cX4_hangingWith 79 = .ok (.iload_n 3, 1) := by decide +kernel
theorem dX4_hangingWith_80 : decode cX4_hangingWith 80 = .ok (.iload 5, 2) := by decide +kernel
theorem dX4_hangingWith_82 : decode cX4_hangingWith 82 = .ok (.if_icmp .ne 6, 3) := by decide +kernel
theorem dX4_hangingWith_85 : decode cX4_hangingWith 85 = .ok (.goto 9, 3) := by decide +kernel
theorem dX4_hangingWith_88 : decode cX4_hangingWith 88 = .ok (.iinc 4 1, 3) := by decide +kernel
theorem dX4_hangingWith_91 : decode cX4_hangingWith 91 = .ok (.goto (-84), 3) := by decide +kernel
theorem dX4_hangingWith_94 : decode cX4_hangingWith 94 = .ok (.iload_n 3, 1) := by decide +kernel
theorem dX4_hangingWith_95 : decode cX4_hangingWith 95 = .ok (.ireturn, 1) := by decide +kernel
def wb_X4_hangingWith_73 (K7 : AH → Nat → Int32 → Int32 → Int32 → Prop) (K22 : AH → Nat → Int32 → Int32 → Int32 → Int32 → Int32 → Prop) (h : AH) (al0 : Nat) (xl2 : Int32) (xl3 : Int32) (xl4 : Int32) (xl5 : Int32) (xl6 : Int32)  (post : AH → Int32 → Prop) : Prop := ∀ iv1 : Int32, iv1 = xl6 + 1 → (K22 h al0 xl2 xl3 xl4 xl5 iv1)
set_option maxRecDepth 100000 in
theorem tb_X4_hangingWith_73 {G : GG} {p : Program} {l : Launch} {e : Env} {R : Room} {s : State} {m : MethodId} {args : Array Value} {below : List Frame} {meth : Method} {c : Code} {n0 s0 : Nat} {post : AH → Int32 → Prop} (C : Cx G p R s m args meth c 8 cX4_hangingWith RX4 n0 s0 0 0) (hr : meth.sig.returnType = (some .int)) {K7 : AH → Nat → Int32 → Int32 → Int32 → Prop} {K22 : AH → Nat → Int32 → Int32 → Int32 → Int32 → Int32 → Prop} (hK7 : ∀ (h : AH) (al0 : Nat) (xl2 : Int32) (xl3 : Int32) (xl4 : Int32), K7 h al0 xl2 xl3 xl4 → AW G p l e R s m args below meth c 8 (QM G (pI post) args s below n0 s0) 7 [(0, .ref (G.1 + al0)), (2, .int xl2), (3, .int xl3), (4, .int xl4)] [] h) (hK22 : ∀ (h : AH) (al0 : Nat) (xl2 : Int32) (xl3 : Int32) (xl4 : Int32) (xl5 : Int32) (xl6 : Int32), K22 h al0 xl2 xl3 xl4 xl5 xl6 → AW G p l e R s m args below meth c 8 (QM G (pI post) args s below n0 s0) 22 [(0, .ref (G.1 + al0)), (2, .int xl2), (3, .int xl3), (4, .int xl4), (5, .int xl5), (6, .int xl6)] [] h) {h : AH} {al0 : Nat} {xl2 : Int32} {xl3 : Int32} {xl4 : Int32} {xl5 : Int32} {xl6 : Int32}  (hw : wb_X4_hangingWith_73 K7 K22 h al0 xl2 xl3 xl4 xl5 xl6 post) : AW G p l e R s m args below meth c 8 (QM G (pI post) args s below n0 s0) 73 [(0, .ref (G.1 + al0)), (2, .int xl2), (3, .int xl3), (4, .int xl4), (5, .int xl5), (6, .int xl6)] [] h := by
  unfold wb_X4_hangingWith_73 at hw
  obtain ⟨iv1, eiv1⟩ : ∃ q : Int32, q = xl6 + 1 := ⟨_, rfl⟩
  replace hw := hw iv1 eiv1
  refine r_iinc C dX4_hangingWith_73 5 rfl (by rw [eiv1]; rfl) [(6, .int iv1), (0, .ref (G.1 + al0)), (2, .int xl2), (3, .int xl3), (4, .int xl4), (5, .int xl5)] (by decide) rfl ?_
  refine r_goto C dX4_hangingWith_76 22 (by decide) ?_
  refine r_sub [1, 2, 3, 4, 5, 0] rfl ?_
  exact hK22 _ _ _ _ _ _ _ hw
def wb_X4_hangingWith_22 (K7 : AH → Nat → Int32 → Int32 → Int32 → Prop) (K22 : AH → Nat → Int32 → Int32 → Int32 → Int32 → Int32 → Prop) (h : AH) (al0 : Nat) (xl2 : Int32) (xl3 : Int32) (xl4 : Int32) (xl5 : Int32) (xl6 : Int32)  (post : AH → Int32 → Prop) : Prop := (ob h al0 4) ∧ (((aI h al0 0) ≤ xl6 → ((¬ xl3 = xl5 → (∀ iv1 : Int32, iv1 = xl4 + 1 → (K7 h al0 xl2 xl3 iv1))) ∧ (xl3 = xl5 → (post h xl3)))) ∧ (¬ (aI h al0 0) ≤ xl6 → ((ob h al0 4) ∧ (∃ rv2, aP h al0 1 = some rv2 ∧ ((ob h rv2 13) ∧ ((vp_in xl6 (aL h rv2)) ∧ ((ob h al0 4) ∧ (∃ rv3, aP h al0 2 = some rv3 ∧ ((ob h rv3 13) ∧ ((vp_in xl6 (aL h rv3)) ∧ (∀ iv4 : Int32, iv4 = ((1 : Int32) <<< ((aI h rv2 xl6.toNatClampNeg) &&& 31)) ||| ((1 : Int32) <<< ((aI h rv3 xl6.toNatClampNeg) &&& 31)) → ((¬ ((xl2 >>> (xl6 &&& 31)) &&& (1 : Int32)) = 0 → (wb_X4_hangingWith_73 K7 K22 h al0 xl2 xl3 xl4 xl5 xl6 post)) ∧ (((xl2 >>> (xl6 &&& 31)) &&& (1 : Int32)) = 0 → (((xl3 &&& iv4) = 0 → (wb_X4_hangingWith_73 K7 K22 h al0 xl2 xl3 xl4 xl5 xl6 post)) ∧ (¬ (xl3 &&& iv4) = 0 → (∀ iv5 : Int32, iv5 = xl3 ||| iv4 → (wb_X4_hangingWith_73 K7 K22 h al0 xl2 iv5 xl4 xl5 xl6 post)))))))))))))))))
set_option maxRecDepth 100000 in
theorem tb_X4_hangingWith_22 {G : GG} {p : Program} {l : Launch} {e : Env} {R : Room} {s : State} {m : MethodId} {args : Array Value} {below : List Frame} {meth : Method} {c : Code} {n0 s0 : Nat} {post : AH → Int32 → Prop} (C : Cx G p R s m args meth c 8 cX4_hangingWith RX4 n0 s0 0 0) (hr : meth.sig.returnType = (some .int)) {K7 : AH → Nat → Int32 → Int32 → Int32 → Prop} {K22 : AH → Nat → Int32 → Int32 → Int32 → Int32 → Int32 → Prop} (hK7 : ∀ (h : AH) (al0 : Nat) (xl2 : Int32) (xl3 : Int32) (xl4 : Int32), K7 h al0 xl2 xl3 xl4 → AW G p l e R s m args below meth c 8 (QM G (pI post) args s below n0 s0) 7 [(0, .ref (G.1 + al0)), (2, .int xl2), (3, .int xl3), (4, .int xl4)] [] h) (hK22 : ∀ (h : AH) (al0 : Nat) (xl2 : Int32) (xl3 : Int32) (xl4 : Int32) (xl5 : Int32) (xl6 : Int32), K22 h al0 xl2 xl3 xl4 xl5 xl6 → AW G p l e R s m args below meth c 8 (QM G (pI post) args s below n0 s0) 22 [(0, .ref (G.1 + al0)), (2, .int xl2), (3, .int xl3), (4, .int xl4), (5, .int xl5), (6, .int xl6)] [] h) {h : AH} {al0 : Nat} {xl2 : Int32} {xl3 : Int32} {xl4 : Int32} {xl5 : Int32} {xl6 : Int32}  (hw : wb_X4_hangingWith_22 K7 K22 h al0 xl2 xl3 xl4 xl5 xl6 post) : AW G p l e R s m args below meth c 8 (QM G (pI post) args s below n0 s0) 22 [(0, .ref (G.1 + al0)), (2, .int xl2), (3, .int xl3), (4, .int xl4), (5, .int xl5), (6, .int xl6)] [] h := by
  unfold wb_X4_hangingWith_22 at hw
  refine r_iload C dX4_hangingWith_22 5 rfl ?_
  refine r_aload_n C dX4_hangingWith_24 0 rfl ?_
  refine r_getI C fl_RX4_27_4 hw.1 (fun _ _ _ => rfl) dX4_hangingWith_25 ?_
  replace hw := hw.2
  refine r_icmp_ge C dX4_hangingWith_28 79 (by decide) (fun hc => ?_) (fun hc => ?_)
  · replace hw := hw.1 hc
    refine r_iload_n C dX4_hangingWith_79 2 rfl ?_
    refine r_iload C dX4_hangingWith_80 4 rfl ?_
    refine r_icmp_ne C dX4_hangingWith_82 88 (by decide) (fun hc => ?_) (fun hc => ?_)
    · replace hw := hw.1 hc
      obtain ⟨iv1, eiv1⟩ : ∃ q : Int32, q = xl4 + 1 := ⟨_, rfl⟩
      replace hw := hw iv1 eiv1
      refine r_iinc C dX4_hangingWith_88 3 rfl (by rw [eiv1]; rfl) [(4, .int iv1), (0, .ref (G.1 + al0)), (2, .int xl2), (3, .int xl3), (5, .int xl5), (6, .int xl6)] (by decide) rfl ?_
      refine r_goto C dX4_hangingWith_91 7 (by decide) ?_
      refine r_sub [1, 2, 3, 0] rfl ?_
      exact hK7 _ _ _ _ _ hw
    · replace hw := hw.2 hc
      refine r_goto C dX4_hangingWith_85 94 (by decide) ?_
      refine r_iload_n C dX4_hangingWith_94 2 rfl ?_
      exact r_iret C hr dX4_hangingWith_95 hw
  · replace hw := hw.2 hc
    refine r_iconst (v := 1) C dX4_hangingWith_31 (by decide) ?_
    refine r_aload_n C dX4_hangingWith_32 0 rfl ?_
    have hob := hw.1
    obtain ⟨rv2, hp, hw⟩ := hw.2
    refine r_getP C fl_RX4_9_4 hob hp (fun _ _ _ => rfl) dX4_hangingWith_33 ?_
    refine r_iload C dX4_hangingWith_36 5 rfl ?_
    refine r_iaload C hw.1 hw.2.1 dX4_hangingWith_38 ?_
    replace hw := hw.2.2
    refine r_ishl C dX4_hangingWith_39 ?_
    refine r_iconst (v := 1) C dX4_hangingWith_40 (by decide) ?_
    refine r_aload_n C dX4_hangingWith_41 0 rfl ?_
    have hob := hw.1
    obtain ⟨rv3, hp, hw⟩ := hw.2
    refine r_getP C fl_RX4_15_4 hob hp (fun _ _ _ => rfl) dX4_hangingWith_42 ?_
    refine r_iload C dX4_hangingWith_45 5 rfl ?_
    refine r_iaload C hw.1 hw.2.1 dX4_hangingWith_47 ?_
    replace hw := hw.2.2
    refine r_ishl C dX4_hangingWith_48 ?_
    refine r_ior C dX4_hangingWith_49 ?_
    refine r_topi fun iv4 eiv4 => ?_
    replace hw := hw iv4 eiv4
    refine r_istore C dX4_hangingWith_50 [(7, .int iv4), (0, .ref (G.1 + al0)), (2, .int xl2), (3, .int xl3), (4, .int xl4), (5, .int xl5), (6, .int xl6)] (by decide) rfl ?_
    refine r_iload_n C dX4_hangingWith_52 2 rfl ?_
    refine r_iload C dX4_hangingWith_53 6 rfl ?_
    refine r_ishr C dX4_hangingWith_55 ?_
    refine r_iconst (v := 1) C dX4_hangingWith_56 (by decide) ?_
    refine r_iand C dX4_hangingWith_57 ?_
    refine r_if_ne C dX4_hangingWith_58 73 (by decide) (fun hc => ?_) (fun hc => ?_)
    · replace hw := hw.1 hc
      refine r_sub [1, 2, 3, 4, 5, 6] rfl ?_
      exact tb_X4_hangingWith_73 C hr hK7 hK22 hw
    · replace hw := hw.2 hc
      refine r_iload_n C dX4_hangingWith_61 3 rfl ?_
      refine r_iload C dX4_hangingWith_62 0 rfl ?_
      refine r_iand C dX4_hangingWith_64 ?_
      refine r_if_eq C dX4_hangingWith_65 73 (by decide) (fun hc => ?_) (fun hc => ?_)
      · replace hw := hw.1 hc
        refine r_sub [1, 2, 3, 4, 5, 6] rfl ?_
        exact tb_X4_hangingWith_73 C hr hK7 hK22 hw
      · replace hw := hw.2 hc
        refine r_iload_n C dX4_hangingWith_68 3 rfl ?_
        refine r_iload C dX4_hangingWith_69 0 rfl ?_
        refine r_ior C dX4_hangingWith_71 ?_
        refine r_topi fun iv5 eiv5 => ?_
        replace hw := hw iv5 eiv5
        refine r_istore_n C dX4_hangingWith_72 [(3, .int iv5), (7, .int iv4), (0, .ref (G.1 + al0)), (2, .int xl2), (4, .int xl4), (5, .int xl5), (6, .int xl6)] (by decide) rfl ?_
        refine r_sub [2, 3, 0, 4, 5, 6] rfl ?_
        exact tb_X4_hangingWith_73 C hr hK7 hK22 hw
def wl_X4_hangingWith_22 (K7 : AH → Nat → Int32 → Int32 → Int32 → Prop) (post : AH → Int32 → Prop) : Nat → AH → Nat → Int32 → Int32 → Int32 → Int32 → Int32 → Prop
  | 0 => fun _ _ _ _ _ _ _ => False
  | n + 1 => fun h al0 xl2 xl3 xl4 xl5 xl6 => wb_X4_hangingWith_22 K7 (wl_X4_hangingWith_22 K7 post n) h al0 xl2 xl3 xl4 xl5 xl6 post
theorem tl_X4_hangingWith_22 {G : GG} {p : Program} {l : Launch} {e : Env} {R : Room} {s : State} {m : MethodId} {args : Array Value} {below : List Frame} {meth : Method} {c : Code} {n0 s0 : Nat} {post : AH → Int32 → Prop} (C : Cx G p R s m args meth c 8 cX4_hangingWith RX4 n0 s0 0 0) (hr : meth.sig.returnType = (some .int)) {K7 : AH → Nat → Int32 → Int32 → Int32 → Prop} (hK7 : ∀ (h : AH) (al0 : Nat) (xl2 : Int32) (xl3 : Int32) (xl4 : Int32), K7 h al0 xl2 xl3 xl4 → AW G p l e R s m args below meth c 8 (QM G (pI post) args s below n0 s0) 7 [(0, .ref (G.1 + al0)), (2, .int xl2), (3, .int xl3), (4, .int xl4)] [] h) : ∀ (n : Nat) (h : AH) (al0 : Nat) (xl2 : Int32) (xl3 : Int32) (xl4 : Int32) (xl5 : Int32) (xl6 : Int32), wl_X4_hangingWith_22 K7 post n h al0 xl2 xl3 xl4 xl5 xl6 → AW G p l e R s m args below meth c 8 (QM G (pI post) args s below n0 s0) 22 [(0, .ref (G.1 + al0)), (2, .int xl2), (3, .int xl3), (4, .int xl4), (5, .int xl5), (6, .int xl6)] [] h := by
  intro n
  induction n with
  | zero => intro h al0 xl2 xl3 xl4 xl5 xl6 hw; exact hw.elim
  | succ n ih => intro h al0 xl2 xl3 xl4 xl5 xl6 hw; exact tb_X4_hangingWith_22 C hr hK7 ih hw
def wb_X4_hangingWith_7 (K7 : AH → Nat → Int32 → Int32 → Int32 → Prop) (h : AH) (al0 : Nat) (xl2 : Int32) (xl3 : Int32) (xl4 : Int32)  (post : AH → Int32 → Prop) : Prop := (ob h al0 4) ∧ (((aI h al0 0) ≤ xl4 → (post h xl3)) ∧ (¬ (aI h al0 0) ≤ xl4 → (∃ n, wl_X4_hangingWith_22 K7 post n h al0 xl2 xl3 xl4 xl3 0)))
set_option maxRecDepth 100000 in
theorem tb_X4_hangingWith_7 {G : GG} {p : Program} {l : Launch} {e : Env} {R : Room} {s : State} {m : MethodId} {args : Array Value} {below : List Frame} {meth : Method} {c : Code} {n0 s0 : Nat} {post : AH → Int32 → Prop} (C : Cx G p R s m args meth c 8 cX4_hangingWith RX4 n0 s0 0 0) (hr : meth.sig.returnType = (some .int)) {K7 : AH → Nat → Int32 → Int32 → Int32 → Prop} (hK7 : ∀ (h : AH) (al0 : Nat) (xl2 : Int32) (xl3 : Int32) (xl4 : Int32), K7 h al0 xl2 xl3 xl4 → AW G p l e R s m args below meth c 8 (QM G (pI post) args s below n0 s0) 7 [(0, .ref (G.1 + al0)), (2, .int xl2), (3, .int xl3), (4, .int xl4)] [] h) {h : AH} {al0 : Nat} {xl2 : Int32} {xl3 : Int32} {xl4 : Int32}  (hw : wb_X4_hangingWith_7 K7 h al0 xl2 xl3 xl4 post) : AW G p l e R s m args below meth c 8 (QM G (pI post) args s below n0 s0) 7 [(0, .ref (G.1 + al0)), (2, .int xl2), (3, .int xl3), (4, .int xl4)] [] h := by
  unfold wb_X4_hangingWith_7 at hw
  refine r_iload C dX4_hangingWith_7 3 rfl ?_
  refine r_aload_n C dX4_hangingWith_9 0 rfl ?_
  refine r_getI C fl_RX4_27_4 hw.1 (fun _ _ _ => rfl) dX4_hangingWith_10 ?_
  replace hw := hw.2
  refine r_icmp_ge C dX4_hangingWith_13 94 (by decide) (fun hc => ?_) (fun hc => ?_)
  · replace hw := hw.1 hc
    refine r_iload_n C dX4_hangingWith_94 2 rfl ?_
    exact r_iret C hr dX4_hangingWith_95 hw
  · replace hw := hw.2 hc
    refine r_iload_n C dX4_hangingWith_16 2 rfl ?_
    refine r_istore C dX4_hangingWith_17 [(5, .int xl3), (0, .ref (G.1 + al0)), (2, .int xl2), (3, .int xl3), (4, .int xl4)] (by decide) rfl ?_
    refine r_iconst (v := 0) C dX4_hangingWith_19 (by decide) ?_
    refine r_istore C dX4_hangingWith_20 [(6, .int 0), (5, .int xl3), (0, .ref (G.1 + al0)), (2, .int xl2), (3, .int xl3), (4, .int xl4)] (by decide) rfl ?_
    refine r_sub [2, 3, 4, 5, 1, 0] rfl ?_
    obtain ⟨n, hw⟩ := hw
    exact tl_X4_hangingWith_22 C hr hK7 n _ _ _ _ _ _ _ hw
def wl_X4_hangingWith_7  (post : AH → Int32 → Prop) : Nat → AH → Nat → Int32 → Int32 → Int32 → Prop
  | 0 => fun _ _ _ _ _ => False
  | n + 1 => fun h al0 xl2 xl3 xl4 => wb_X4_hangingWith_7  (wl_X4_hangingWith_7  post n) h al0 xl2 xl3 xl4 post
theorem tl_X4_hangingWith_7 {G : GG} {p : Program} {l : Launch} {e : Env} {R : Room} {s : State} {m : MethodId} {args : Array Value} {below : List Frame} {meth : Method} {c : Code} {n0 s0 : Nat} {post : AH → Int32 → Prop} (C : Cx G p R s m args meth c 8 cX4_hangingWith RX4 n0 s0 0 0) (hr : meth.sig.returnType = (some .int))   : ∀ (n : Nat) (h : AH) (al0 : Nat) (xl2 : Int32) (xl3 : Int32) (xl4 : Int32), wl_X4_hangingWith_7  post n h al0 xl2 xl3 xl4 → AW G p l e R s m args below meth c 8 (QM G (pI post) args s below n0 s0) 7 [(0, .ref (G.1 + al0)), (2, .int xl2), (3, .int xl3), (4, .int xl4)] [] h := by
  intro n
  induction n with
  | zero => intro h al0 xl2 xl3 xl4 hw; exact hw.elim
  | succ n ih => intro h al0 xl2 xl3 xl4 hw; exact tb_X4_hangingWith_7 C hr  ih hw
def wp_X4_hangingWith (h : AH) (a0 : Nat) (x1 : Int32) (x2 : Int32) (post : AH → Int32 → Prop) : Prop := ∀ iv1 : Int32, iv1 = (1 : Int32) <<< (x1 &&& 31) → (∃ n, wl_X4_hangingWith_7  post n h a0 x2 iv1 0)
set_option maxRecDepth 100000 in
theorem c_X4_hangingWith (G : GG) (h : AH) (a0 : Nat) (x1 : Int32) (x2 : Int32) (post : AH → Int32 → Prop) (hw : wp_X4_hangingWith h a0 x1 x2 post) : MC G yX4_hangingWith cX4_hangingWith 8 (some .int) 0 0 h [.ref (G.1 + a0), .int x1, .int x2] (pI post) := by
  refine MC.of (lv := [(0, .ref (G.1 + a0)), (1, .int x1), (2, .int x2)]) (by decide) (Nat.le_of_ble_eq_true rfl) rfl fun p l e R s m args below meth c C hr hnm => ?_
  unfold wp_X4_hangingWith at hw
  refine r_iconst (v := 1) C dX4_hangingWith_0 (by decide) ?_
  refine r_iload_n C dX4_hangingWith_1 1 rfl ?_
  refine r_ishl C dX4_hangingWith_2 ?_
  refine r_topi fun iv1 eiv1 => ?_
  replace hw := hw iv1 eiv1
  refine r_istore_n C dX4_hangingWith_3 [(3, .int iv1), (0, .ref (G.1 + a0)), (1, .int x1), (2, .int x2)] (by decide) rfl ?_
  refine r_iconst (v := 0) C dX4_hangingWith_4 (by decide) ?_
  refine r_istore C dX4_hangingWith_5 [(4, .int 0), (3, .int iv1), (0, .ref (G.1 + a0)), (1, .int x1), (2, .int x2)] (by decide) rfl ?_
  refine r_sub [2, 4, 1, 0] rfl ?_
  obtain ⟨n, hw⟩ := hw
  exact tl_X4_hangingWith_7 C hr  n _ _ _ _ _ hw
theorem dX1_isDriven_0 : decode cX1_isDriven 0 = .ok (.aload_n 0, 1) := by decide +kernel
theorem dX1_isDriven_1 : decode cX1_isDriven 1 = .ok (.getfield 43, 3) := by decide +kernel
theorem dX1_isDriven_4 : decode cX1_isDriven 4 = .ok (.iload_n 1, 1) := by decide +kernel
theorem dX1_isDriven_5 : decode cX1_isDriven 5 = .ok (.iload_n 3, 1) := by decide +kernel
theorem dX1_isDriven_6 : decode cX1_isDriven 6 = .ok (.invokevirtual 141, 3) := by decide +kernel
theorem dX1_isDriven_9 : decode cX1_isDriven 9 = .ok (.istore 4, 2) := by decide +kernel
theorem dX1_isDriven_11 : decode cX1_isDriven 11 = .ok (.iconst 0, 1) := by decide +kernel
theorem dX1_isDriven_12 : decode cX1_isDriven 12 = .ok (.istore 5, 2) := by decide +kernel
theorem dX1_isDriven_14 : decode cX1_isDriven 14 = .ok (.iconst 0, 1) := by decide +kernel
theorem dX1_isDriven_15 : decode cX1_isDriven 15 = .ok (.istore 6, 2) := by decide +kernel
theorem dX1_isDriven_17 : decode cX1_isDriven 17 = .ok (.iconst 0, 1) := by decide +kernel
theorem dX1_isDriven_18 : decode cX1_isDriven 18 = .ok (.istore 7, 2) := by decide +kernel
theorem dX1_isDriven_20 : decode cX1_isDriven 20 = .ok (.iload 7, 2) := by decide +kernel
theorem dX1_isDriven_22 : decode cX1_isDriven 22 = .ok (.aload_n 0, 1) := by decide +kernel
theorem dX1_isDriven_23 : decode cX1_isDriven 23 = .ok (.getfield 70, 3) := by decide +kernel
theorem dX1_isDriven_26 : decode cX1_isDriven 26 = .ok (.if_icmp .ge 54, 3) := by decide +kernel
theorem dX1_isDriven_29 : decode cX1_isDriven 29 = .ok (.iload 4, 2) := by decide +kernel
theorem dX1_isDriven_31 : decode cX1_isDriven 31 = .ok (.iload 7, 2) := by decide +kernel
theorem dX1_isDriven_33 : decode cX1_isDriven 33 = .ok (.ishr, 1) := by decide +kernel
theorem dX1_isDriven_34 : decode cX1_isDriven 34 = .ok (.iconst 1, 1) := by decide +kernel
theorem dX1_isDriven_35 : decode cX1_isDriven 35 = .ok (.iand, 1) := by decide +kernel
theorem dX1_isDriven_36 : decode cX1_isDriven 36 = .ok (.ifCond .eq 38, 3) := by decide +kernel
theorem dX1_isDriven_39 : decode cX1_isDriven 39 = .ok (.iload 5, 2) := by decide +kernel
theorem dX1_isDriven_41 : decode cX1_isDriven 41 = .ok (.aload_n 0, 1) := by decide +kernel
theorem dX1_isDriven_42 : decode cX1_isDriven 42 = .ok (.getfield 25, 3) := by decide +kernel
theorem dX1_isDriven_45 : decode cX1_isDriven 45 = .ok (.iload 7, 2) := by decide +kernel
theorem dX1_isDriven_47 : decode cX1_isDriven 47 = .ok (.iaload, 1) := by decide +kernel
theorem dX1_isDriven_48 : decode cX1_isDriven 48 = .ok (.aload_n 0, 1) := by decide +kernel
theorem dX1_isDriven_49 : decode cX1_isDriven 49 = .ok (.getfield 28, 3) := by decide +kernel
theorem dX1_isDriven_52 : decode cX1_isDriven 52 = .ok (.iload 7, 2) := by decide +kernel
theorem dX1_isDriven_54 : decode cX1_isDriven 54 = .ok (.iaload, 1) := by decide +kernel
theorem dX1_isDriven_55 : decode cX1_isDriven 55 = .ok (.imul, 1) := by decide +kernel
theorem dX1_isDriven_56 : decode cX1_isDriven 56 = .ok (.iadd, 1) := by decide +kernel
theorem dX1_isDriven_57 : decode cX1_isDriven 57 = .ok (.istore 5, 2) := by decide +kernel
theorem dX1_isDriven_59 : decode cX1_isDriven 59 = .ok (.iload 6, 2) := by decide +kernel
theorem dX1_isDriven_61 : decode cX1_isDriven 61 = .ok (.aload_n 0, 1) := by decide +kernel
theorem dX1_isDriven_62 : decode cX1_isDriven 62 = .ok (.getfield 43, 3) := by decide +kernel
theorem dX1_isDriven_65 : decode cX1_isDriven 65 = .ok (.getfield 144, 3) := by decide +kernel
theorem dX1_isDriven_68 : decode cX1_isDriven 68 = .ok (.iload 7, 2) := by decide +kernel
theorem dX1_isDriven_70 : decode cX1_isDriven 70 = .ok (.iaload, 1) := by decide +kernel
theorem dX1_isDriven_71 : decode cX1_isDriven 71 = .ok (.iadd, 1) := by decide +kernel
theorem dX1_isDriven_72 : decode cX1_isDriven 72 = .ok (.istore 6, 2) := by decide +kernel
theorem dX1_isDriven_74 : decode cX1_isDriven 74 = .ok (.iinc 7 1, 3) := by decide +kernel
theorem dX1_isDriven_77 : decode cX1_isDriven 77 = .ok (.goto (-57), 3) := by decide +kernel
theorem dX1_isDriven_80 : decode cX1_isDriven 80 = .ok (.iload_n 2, 1) := by decide +kernel
theorem dX1_isDriven_81 : decode cX1_isDriven 81 = .ok (.iload 5, 2) := by decide +kernel
theorem dX1_isDriven_83 : decode cX1_isDriven 83 = .ok (.imul, 1) := by decide +kernel
theorem dX1_isDriven_84 : decode cX1_isDriven 84 = .ok (.iload 6, 2) := by decide +kernel
theorem dX1_isDriven_86 : decode cX1_isDriven 86 = .ok (.if_icmp .le 7, 3) := by decide +kernel
theorem dX1_isDriven_89 : decode cX1_isDriven 89 = .ok (.iconst 1, 1) := by decide +kernel
theorem dX1_isDriven_90 : decode cX1_isDriven 90 = .ok (.goto 4, 3) := by decide +kernel
theorem dX1_isDriven_93 : decode cX1_isDriven 93 = .ok (.iconst 0, 1) := by decide +kernel
theorem dX1_isDriven_94 : decode cX1_isDriven 94 = .ok (.ireturn, 1) := by decide +kernel
def wb_X1_isDriven_74 (K20 : AH → Nat → Int32 → Int32 → Int32 → Int32 → Int32 → Prop) (h : AH) (al0 : Nat) (xl2 : Int32) (xl4 : Int32) (xl5 : Int32) (xl6 : Int32) (xl7 : Int32)  (post : AH → Int32 → Prop) : Prop := ∀ iv1 : Int32, iv1 = xl7 + 1 → (K20 h al0 xl2 xl4 xl5 xl6 iv1)
set_option maxRecDepth 100000 in
theorem tb_X1_isDriven_74 {G : GG} {p : Program} {l : Launch} {e : Env} {R : Room} {s : State} {m : MethodId} {args : Array Value} {below : List Frame} {meth : Method} {c : Code} {n0 s0 : Nat} {post : AH → Int32 → Prop} (C : Cx G p R s m args meth c 8 cX1_isDriven RX1 n0 s0 1 27) (hr : meth.sig.returnType = (some .boolean)) {K20 : AH → Nat → Int32 → Int32 → Int32 → Int32 → Int32 → Prop} (hK20 : ∀ (h : AH) (al0 : Nat) (xl2 : Int32) (xl4 : Int32) (xl5 : Int32) (xl6 : Int32) (xl7 : Int32), K20 h al0 xl2 xl4 xl5 xl6 xl7 → AW G p l e R s m args below meth c 8 (QM G (pI post) args s below n0 s0) 20 [(0, .ref (G.1 + al0)), (2, .int xl2), (4, .int xl4), (5, .int xl5), (6, .int xl6), (7, .int xl7)] [] h) {h : AH} {al0 : Nat} {xl2 : Int32} {xl4 : Int32} {xl5 : Int32} {xl6 : Int32} {xl7 : Int32}  (hw : wb_X1_isDriven_74 K20 h al0 xl2 xl4 xl5 xl6 xl7 post) : AW G p l e R s m args below meth c 8 (QM G (pI post) args s below n0 s0) 74 [(0, .ref (G.1 + al0)), (2, .int xl2), (4, .int xl4), (5, .int xl5), (6, .int xl6), (7, .int xl7)] [] h := by
  unfold wb_X1_isDriven_74 at hw
  obtain ⟨iv1, eiv1⟩ : ∃ q : Int32, q = xl7 + 1 := ⟨_, rfl⟩
  replace hw := hw iv1 eiv1
  refine r_iinc C dX1_isDriven_74 5 rfl (by rw [eiv1]; rfl) [(7, .int iv1), (0, .ref (G.1 + al0)), (2, .int xl2), (4, .int xl4), (5, .int xl5), (6, .int xl6)] (by decide) rfl ?_
  refine r_goto C dX1_isDriven_77 20 (by decide) ?_
  refine r_sub [1, 2, 3, 4, 5, 0] rfl ?_
  exact hK20 _ _ _ _ _ _ _ hw
def wb_X1_isDriven_20 (K20 : AH → Nat → Int32 → Int32 → Int32 → Int32 → Int32 → Prop) (h : AH) (al0 : Nat) (xl2 : Int32) (xl4 : Int32) (xl5 : Int32) (xl6 : Int32) (xl7 : Int32)  (post : AH → Int32 → Prop) : Prop := (ob h al0 1) ∧ (((aI h al0 5) ≤ xl7 → (((xl2 * xl5) ≤ xl6 → (((0 : Int32) = 0 ∨ (0 : Int32) = 1) ∧ post h 0)) ∧ (¬ (xl2 * xl5) ≤ xl6 → (((1 : Int32) = 0 ∨ (1 : Int32) = 1) ∧ post h 1)))) ∧ (¬ (aI h al0 5) ≤ xl7 → ((((xl4 >>> (xl7 &&& 31)) &&& (1 : Int32)) = 0 → (wb_X1_isDriven_74 K20 h al0 xl2 xl4 xl5 xl6 xl7 post)) ∧ (¬ ((xl4 >>> (xl7 &&& 31)) &&& (1 : Int32)) = 0 → ((ob h al0 1) ∧ (∃ rv1, aP h al0 7 = some rv1 ∧ ((ob h rv1 13) ∧ ((vp_in xl7 (aL h rv1)) ∧ ((ob h al0 1) ∧ (∃ rv2, aP h al0 8 = some rv2 ∧ ((ob h rv2 13) ∧ ((vp_in xl7 (aL h rv2)) ∧ (∀ iv3 : Int32, iv3 = xl5 + ((aI h rv1 xl7.toNatClampNeg) * (aI h rv2 xl7.toNatClampNeg)) → ((ob h al0 1) ∧ (∃ rv4, aP h al0 14 = some rv4 ∧ ((ob h rv4 4) ∧ (∃ rv5, aP h rv4 5 = some rv5 ∧ ((ob h rv5 13) ∧ ((vp_in xl7 (aL h rv5)) ∧ (∀ iv6 : Int32, iv6 = xl6 + (aI h rv5 xl7.toNatClampNeg) → (wb_X1_isDriven_74 K20 h al0 xl2 xl4 iv3 iv6 xl7 post)))))))))))))))))))))
set_option maxRecDepth 100000 in
theorem tb_X1_isDriven_20 {G : GG} {p : Program} {l : Launch} {e : Env} {R : Room} {s : State} {m : MethodId} {args : Array Value} {below : List Frame} {meth : Method} {c : Code} {n0 s0 : Nat} {post : AH → Int32 → Prop} (C : Cx G p R s m args meth c 8 cX1_isDriven RX1 n0 s0 1 27) (hr : meth.sig.returnType = (some .boolean)) {K20 : AH → Nat → Int32 → Int32 → Int32 → Int32 → Int32 → Prop} (hK20 : ∀ (h : AH) (al0 : Nat) (xl2 : Int32) (xl4 : Int32) (xl5 : Int32) (xl6 : Int32) (xl7 : Int32), K20 h al0 xl2 xl4 xl5 xl6 xl7 → AW G p l e R s m args below meth c 8 (QM G (pI post) args s below n0 s0) 20 [(0, .ref (G.1 + al0)), (2, .int xl2), (4, .int xl4), (5, .int xl5), (6, .int xl6), (7, .int xl7)] [] h) {h : AH} {al0 : Nat} {xl2 : Int32} {xl4 : Int32} {xl5 : Int32} {xl6 : Int32} {xl7 : Int32}  (hw : wb_X1_isDriven_20 K20 h al0 xl2 xl4 xl5 xl6 xl7 post) : AW G p l e R s m args below meth c 8 (QM G (pI post) args s below n0 s0) 20 [(0, .ref (G.1 + al0)), (2, .int xl2), (4, .int xl4), (5, .int xl5), (6, .int xl6), (7, .int xl7)] [] h := by
  unfold wb_X1_isDriven_20 at hw
  refine r_iload C dX1_isDriven_20 5 rfl ?_
  refine r_aload_n C dX1_isDriven_22 0 rfl ?_
  refine r_getI C fl_RX1_70_1 hw.1 (fun _ _ _ => rfl) dX1_isDriven_23 ?_
  replace hw := hw.2
  refine r_icmp_ge C dX1_isDriven_26 80 (by decide) (fun hc => ?_) (fun hc => ?_)
  · replace hw := hw.1 hc
    refine r_iload_n C dX1_isDriven_80 1 rfl ?_
    refine r_iload C dX1_isDriven_81 3 rfl ?_
    refine r_imul C dX1_isDriven_83 ?_
    refine r_iload C dX1_isDriven_84 4 rfl ?_
    refine r_icmp_le C dX1_isDriven_86 93 (by decide) (fun hc => ?_) (fun hc => ?_)
    · replace hw := hw.1 hc
      refine r_iconst (v := 0) C dX1_isDriven_93 (by decide) ?_
      exact r_zret C hr dX1_isDriven_94 hw.1 hw.2
    · replace hw := hw.2 hc
      refine r_iconst (v := 1) C dX1_isDriven_89 (by decide) ?_
      refine r_goto C dX1_isDriven_90 94 (by decide) ?_
      exact r_zret C hr dX1_isDriven_94 hw.1 hw.2
  · replace hw := hw.2 hc
    refine r_iload C dX1_isDriven_29 2 rfl ?_
    refine r_iload C dX1_isDriven_31 5 rfl ?_
    refine r_ishr C dX1_isDriven_33 ?_
    refine r_iconst (v := 1) C dX1_isDriven_34 (by decide) ?_
    refine r_iand C dX1_isDriven_35 ?_
    refine r_if_eq C dX1_isDriven_36 74 (by decide) (fun hc => ?_) (fun hc => ?_)
    · replace hw := hw.1 hc
      refine r_sub [0, 1, 2, 3, 4, 5] rfl ?_
      exact tb_X1_isDriven_74 C hr hK20 hw
    · replace hw := hw.2 hc
      refine r_iload C dX1_isDriven_39 3 rfl ?_
      refine r_aload_n C dX1_isDriven_41 0 rfl ?_
      have hob := hw.1
      obtain ⟨rv1, hp, hw⟩ := hw.2
      refine r_getP C fl_RX1_25_1 hob hp (fun _ _ _ => rfl) dX1_isDriven_42 ?_
      refine r_iload C dX1_isDriven_45 5 rfl ?_
      refine r_iaload C hw.1 hw.2.1 dX1_isDriven_47 ?_
      replace hw := hw.2.2
      refine r_aload_n C dX1_isDriven_48 0 rfl ?_
      have hob := hw.1
      obtain ⟨rv2, hp, hw⟩ := hw.2
      refine r_getP C fl_RX1_28_1 hob hp (fun _ _ _ => rfl) dX1_isDriven_49 ?_
      refine r_iload C dX1_isDriven_52 5 rfl ?_
      refine r_iaload C hw.1 hw.2.1 dX1_isDriven_54 ?_
      replace hw := hw.2.2
      refine r_imul C dX1_isDriven_55 ?_
      refine r_iadd C dX1_isDriven_56 ?_
      refine r_topi fun iv3 eiv3 => ?_
      replace hw := hw iv3 eiv3
      refine r_istore C dX1_isDriven_57 [(5, .int iv3), (0, .ref (G.1 + al0)), (2, .int xl2), (4, .int xl4), (6, .int xl6), (7, .int xl7)] (by decide) rfl ?_
      refine r_iload C dX1_isDriven_59 4 rfl ?_
      refine r_aload_n C dX1_isDriven_61 1 rfl ?_
      have hob := hw.1
      obtain ⟨rv4, hp, hw⟩ := hw.2
      refine r_getP C fl_RX1_43_1 hob hp (fun _ _ _ => rfl) dX1_isDriven_62 ?_
      have hob := hw.1
      obtain ⟨rv5, hp, hw⟩ := hw.2
      refine r_getP C fl_RX1_144_4 hob hp (fun _ _ _ => rfl) dX1_isDriven_65 ?_
      refine r_iload C dX1_isDriven_68 5 rfl ?_
      refine r_iaload C hw.1 hw.2.1 dX1_isDriven_70 ?_
      replace hw := hw.2.2
      refine r_iadd C dX1_isDriven_71 ?_
      refine r_topi fun iv6 eiv6 => ?_
      replace hw := hw iv6 eiv6
      refine r_istore C dX1_isDriven_72 [(6, .int iv6), (5, .int iv3), (0, .ref (G.1 + al0)), (2, .int xl2), (4, .int xl4), (7, .int xl7)] (by decide) rfl ?_
      refine r_sub [2, 3, 4, 1, 0, 5] rfl ?_
      exact tb_X1_isDriven_74 C hr hK20 hw
def wl_X1_isDriven_20  (post : AH → Int32 → Prop) : Nat → AH → Nat → Int32 → Int32 → Int32 → Int32 → Int32 → Prop
  | 0 => fun _ _ _ _ _ _ _ => False
  | n + 1 => fun h al0 xl2 xl4 xl5 xl6 xl7 => wb_X1_isDriven_20  (wl_X1_isDriven_20  post n) h al0 xl2 xl4 xl5 xl6 xl7 post
theorem tl_X1_isDriven_20 {G : GG} {p : Program} {l : Launch} {e : Env} {R : Room} {s : State} {m : MethodId} {args : Array Value} {below : List Frame} {meth : Method} {c : Code} {n0 s0 : Nat} {post : AH → Int32 → Prop} (C : Cx G p R s m args meth c 8 cX1_isDriven RX1 n0 s0 1 27) (hr : meth.sig.returnType = (some .boolean))   : ∀ (n : Nat) (h : AH) (al0 : Nat) (xl2 : Int32) (xl4 : Int32) (xl5 : Int32) (xl6 : Int32) (xl7 : Int32), wl_X1_isDriven_20  post n h al0 xl2 xl4 xl5 xl6 xl7 → AW G p l e R s m args below meth c 8 (QM G (pI post) args s below n0 s0) 20 [(0, .ref (G.1 + al0)), (2, .int xl2), (4, .int xl4), (5, .int xl5), (6, .int xl6), (7, .int xl7)] [] h := by
  intro n
  induction n with
  | zero => intro h al0 xl2 xl4 xl5 xl6 xl7 hw; exact hw.elim
  | succ n ih => intro h al0 xl2 xl4 xl5 xl6 xl7 hw; exact tb_X1_isDriven_20 C hr  ih hw
def wp_X1_isDriven (h : AH) (a0 : Nat) (x1 : Int32) (x2 : Int32) (x3 : Int32) (post : AH → Int32 → Prop) : Prop := (ob h a0 1) ∧ (∃ rv1, aP h a0 14 = some rv1 ∧ ((ob h rv1 4) ∧ wp_X4_hangingWith h rv1 x1 x3 (fun hv2 iv3 => ∃ n, wl_X1_isDriven_20  post n hv2 a0 x2 iv3 0 0 0)))
set_option maxRecDepth 100000 in
theorem c_X1_isDriven (G : GG) (h : AH) (a0 : Nat) (x1 : Int32) (x2 : Int32) (x3 : Int32) (post : AH → Int32 → Prop) (hw : wp_X1_isDriven h a0 x1 x2 x3 post) : MC G yX1_isDriven cX1_isDriven 8 (some .boolean) 1 27 h [.ref (G.1 + a0), .int x1, .int x2, .int x3] (pI post) := by
  refine MC.of (lv := [(0, .ref (G.1 + a0)), (1, .int x1), (2, .int x2), (3, .int x3)]) (by decide) (Nat.le_of_ble_eq_true rfl) rfl fun p l e R s m args below meth c C hr hnm => ?_
  unfold wp_X1_isDriven at hw
  refine r_aload_n C dX1_isDriven_0 0 rfl ?_
  have hob := hw.1
  obtain ⟨rv1, hp, hw⟩ := hw.2
  refine r_getP C fl_RX1_43_1 hob hp (fun _ _ _ => rfl) dX1_isDriven_1 ?_
  refine r_iload_n C dX1_isDriven_4 1 rfl ?_
  refine r_iload_n C dX1_isDriven_5 3 rfl ?_
  have hob := hw.1
  replace hw := hw.2
  refine r_callV C (As := [.int x1, .int x3]) (rest := []) (c_X4_hangingWith G h rv1 x1 x3 _ hw) yl_X4_hangingWith (gm6 (List.mem_of_getElem? (i := 42) rfl) rfl) (gm6 (List.mem_of_getElem? (i := 43) rfl) rfl) (ci := 4) rfl (by decide) (gm6 (List.mem_of_getElem? (i := 44) rfl) rfl) hob (by decide) rfl (Nat.le_of_ble_eq_true rfl) dX1_isDriven_6 rfl (kI fun hv2 iv3 hw => ?_)
  refine r_istore C dX1_isDriven_9 [(4, .int iv3), (0, .ref (G.1 + a0)), (1, .int x1), (2, .int x2), (3, .int x3)] (by decide) rfl ?_
  refine r_iconst (v := 0) C dX1_isDriven_11 (by decide) ?_
  refine r_istore C dX1_isDriven_12 [(5, .int 0), (4, .int iv3), (0, .ref (G.1 + a0)), (1, .int x1), (2, .int x2), (3, .int x3)] (by decide) rfl ?_
  refine r_iconst (v := 0) C dX1_isDriven_14 (by decide) ?_
  refine r_istore C dX1_isDriven_15 [(6, .int 0), (5, .int 0), (4, .int iv3), (0, .ref (G.1 + a0)), (1, .int x1), (2, .int x2), (3, .int x3)] (by decide) rfl ?_
  refine r_iconst (v := 0) C dX1_isDriven_17 (by decide) ?_
  refine r_istore C dX1_isDriven_18 [(7, .int 0), (6, .int 0), (5, .int 0), (4, .int iv3), (0, .ref (G.1 + a0)), (1, .int x1), (2, .int x2), (3, .int x3)] (by decide) rfl ?_
  refine r_sub [4, 6, 3, 2, 1, 0] rfl ?_
  obtain ⟨n, hw⟩ := hw
  exact tl_X1_isDriven_20 C hr  n _ _ _ _ _ _ _ hw
theorem dX4_holdsOf_0 : decode cX4_holdsOf 0 = .ok (.iconst 0, 1) := by decide +kernel
theorem dX4_holdsOf_1 : decode cX4_holdsOf 1 = .ok (.istore_n 2, 1) := by decide +kernel
theorem dX4_holdsOf_2 : decode cX4_holdsOf 2 = .ok (.iconst 0, 1) := by decide +kernel
theorem dX4_holdsOf_3 : decode cX4_holdsOf 3 = .ok (.istore_n 3, 1) := by decide +kernel
theorem dX4_holdsOf_4 : decode cX4_holdsOf 4 = .ok (.iload_n 3, 1) := by decide +kernel
theorem dX4_holdsOf_5 : decode cX4_holdsOf 5 = .ok (.aload_n 0, 1) := by decide +kernel
theorem dX4_holdsOf_6 : decode cX4_holdsOf 6 = .ok (.getfield 27, 3) := by decide +kernel
theorem dX4_holdsOf_9 : decode cX4_holdsOf 9 = .ok (.if_icmp .ge 26, 3) := by decide +kernel
theorem dX4_holdsOf_12 : decode cX4_holdsOf 12 = .ok (.iload_n 1, 1) := by decide +kernel
theorem dX4_holdsOf_13 : decode cX4_holdsOf 13 = .ok (.iload_n 3, 1) := by decide +kernel
theorem dX4_holdsOf_14 : decode cX4_holdsOf 14 = .ok (.ishr, 1) := by decide +kernel
theorem dX4_holdsOf_15 : decode cX4_holdsOf 15 = .ok (.iconst 1, 1) := by decide +kernel
theorem dX4_holdsOf_16 : decode cX4_holdsOf 16 = .ok (.iand, 1) := by decide +kernel
theorem dX4_holdsOf_17 : decode cX4_holdsOf 17 = .ok (.ifCond .eq 12, 3) := by decide +kernel
theorem dX4_holdsOf_20 : decode cX4_holdsOf 20 = .ok (.iload_n 2, 1) := by decide +kernel
theorem dX4_holdsOf_21 : decode cX4_holdsOf 21 = .ok (.aload_n 0, 1) := by decide +kernel
theorem dX4_holdsOf_22 : decode cX4_holdsOf 22 = .ok (.getfield 21, 3) := by decide +kernel
theorem dX4_holdsOf_25 : decode cX4_holdsOf 25 = .ok (.iload_n 3, 1) := by decide +kernel
theorem dX4_holdsOf_26 : decode cX4_holdsOf 26 = .ok (.iaload, 1) := by decide +kernel
theorem dX4_holdsOf_27 : decode cX4_holdsOf 27 = .ok (.iadd, 1) := by decide +kernel
theorem dX4_holdsOf_28 : decode cX4_holdsOf 28 = .ok (.istore_n 2, 1) := by decide +kernel
theorem dX4_holdsOf_29 : decode cX4_holdsOf 29 = .ok (.iinc 3 1, 3) := by decide +kernel
theorem dX4_holdsOf_32 : decode cX4_holdsOf 32 = .ok (.goto (-28), 3) := by decide +kernel
theorem dX4_holdsOf_35 : decode cX4_holdsOf 35 = .ok (.iload_n 2, 1) := by decide +kernel
theorem dX4_holdsOf_36 : decode cX4_holdsOf 36 = .ok (.ireturn, 1) := by decide +kernel
def wb_X4_holdsOf_29 (K4 : AH → Nat → Int32 → Int32 → Int32 → Prop) (h : AH) (al0 : Nat) (xl1 : Int32) (xl2 : Int32) (xl3 : Int32)  (post : AH → Int32 → Prop) : Prop := ∀ iv1 : Int32, iv1 = xl3 + 1 → (K4 h al0 xl1 xl2 iv1)
set_option maxRecDepth 100000 in
theorem tb_X4_holdsOf_29 {G : GG} {p : Program} {l : Launch} {e : Env} {R : Room} {s : State} {m : MethodId} {args : Array Value} {below : List Frame} {meth : Method} {c : Code} {n0 s0 : Nat} {post : AH → Int32 → Prop} (C : Cx G p R s m args meth c 4 cX4_holdsOf RX4 n0 s0 0 0) (hr : meth.sig.returnType = (some .int)) {K4 : AH → Nat → Int32 → Int32 → Int32 → Prop} (hK4 : ∀ (h : AH) (al0 : Nat) (xl1 : Int32) (xl2 : Int32) (xl3 : Int32), K4 h al0 xl1 xl2 xl3 → AW G p l e R s m args below meth c 4 (QM G (pI post) args s below n0 s0) 4 [(0, .ref (G.1 + al0)), (1, .int xl1), (2, .int xl2), (3, .int xl3)] [] h) {h : AH} {al0 : Nat} {xl1 : Int32} {xl2 : Int32} {xl3 : Int32}  (hw : wb_X4_holdsOf_29 K4 h al0 xl1 xl2 xl3 post) : AW G p l e R s m args below meth c 4 (QM G (pI post) args s below n0 s0) 29 [(0, .ref (G.1 + al0)), (1, .int xl1), (2, .int xl2), (3, .int xl3)] [] h := by
  unfold wb_X4_holdsOf_29 at hw
  obtain ⟨iv1, eiv1⟩ : ∃ q : Int32, q = xl3 + 1 := ⟨_, rfl⟩
  replace hw := hw iv1 eiv1
  refine r_iinc C dX4_holdsOf_29 3 rfl (by rw [eiv1]; rfl) [(3, .int iv1), (0, .ref (G.1 + al0)), (1, .int xl1), (2, .int xl2)] (by decide) rfl ?_
  refine r_goto C dX4_holdsOf_32 4 (by decide) ?_
  refine r_sub [1, 2, 3, 0] rfl ?_
  exact hK4 _ _ _ _ _ hw
def wb_X4_holdsOf_4 (K4 : AH → Nat → Int32 → Int32 → Int32 → Prop) (h : AH) (al0 : Nat) (xl1 : Int32) (xl2 : Int32) (xl3 : Int32)  (post : AH → Int32 → Prop) : Prop := (ob h al0 4) ∧ (((aI h al0 0) ≤ xl3 → (post h xl2)) ∧ (¬ (aI h al0 0) ≤ xl3 → ((((xl1 >>> (xl3 &&& 31)) &&& (1 : Int32)) = 0 → (wb_X4_holdsOf_29 K4 h al0 xl1 xl2 xl3 post)) ∧ (¬ ((xl1 >>> (xl3 &&& 31)) &&& (1 : Int32)) = 0 → ((ob h al0 4) ∧ (∃ rv1, aP h al0 4 = some rv1 ∧ ((ob h rv1 13) ∧ ((vp_in xl3 (aL h rv1)) ∧ (∀ iv2 : Int32, iv2 = xl2 + (aI h rv1 xl3.toNatClampNeg) → (wb_X4_holdsOf_29 K4 h al0 xl1 iv2 xl3 post))))))))))
set_option maxRecDepth 100000 in
theorem tb_X4_holdsOf_4 {G : GG} {p : Program} {l : Launch} {e : Env} {R : Room} {s : State} {m : MethodId} {args : Array Value} {below : List Frame} {meth : Method} {c : Code} {n0 s0 : Nat} {post : AH → Int32 → Prop} (C : Cx G p R s m args meth c 4 cX4_holdsOf RX4 n0 s0 0 0) (hr : meth.sig.returnType = (some .int)) {K4 : AH → Nat → Int32 → Int32 → Int32 → Prop} (hK4 : ∀ (h : AH) (al0 : Nat) (xl1 : Int32) (xl2 : Int32) (xl3 : Int32), K4 h al0 xl1 xl2 xl3 → AW G p l e R s m args below meth c 4 (QM G (pI post) args s below n0 s0) 4 [(0, .ref (G.1 + al0)), (1, .int xl1), (2, .int xl2), (3, .int xl3)] [] h) {h : AH} {al0 : Nat} {xl1 : Int32} {xl2 : Int32} {xl3 : Int32}  (hw : wb_X4_holdsOf_4 K4 h al0 xl1 xl2 xl3 post) : AW G p l e R s m args below meth c 4 (QM G (pI post) args s below n0 s0) 4 [(0, .ref (G.1 + al0)), (1, .int xl1), (2, .int xl2), (3, .int xl3)] [] h := by
  unfold wb_X4_holdsOf_4 at hw
  refine r_iload_n C dX4_holdsOf_4 3 rfl ?_
  refine r_aload_n C dX4_holdsOf_5 0 rfl ?_
  refine r_getI C fl_RX4_27_4 hw.1 (fun _ _ _ => rfl) dX4_holdsOf_6 ?_
  replace hw := hw.2
  refine r_icmp_ge C dX4_holdsOf_9 35 (by decide) (fun hc => ?_) (fun hc => ?_)
  · replace hw := hw.1 hc
    refine r_iload_n C dX4_holdsOf_35 2 rfl ?_
    exact r_iret C hr dX4_holdsOf_36 hw
  · replace hw := hw.2 hc
    refine r_iload_n C dX4_holdsOf_12 1 rfl ?_
    refine r_iload_n C dX4_holdsOf_13 3 rfl ?_
    refine r_ishr C dX4_holdsOf_14 ?_
    refine r_iconst (v := 1) C dX4_holdsOf_15 (by decide) ?_
    refine r_iand C dX4_holdsOf_16 ?_
    refine r_if_eq C dX4_holdsOf_17 29 (by decide) (fun hc => ?_) (fun hc => ?_)
    · replace hw := hw.1 hc
      refine r_sub [0, 1, 2, 3] rfl ?_
      exact tb_X4_holdsOf_29 C hr hK4 hw
    · replace hw := hw.2 hc
      refine r_iload_n C dX4_holdsOf_20 2 rfl ?_
      refine r_aload_n C dX4_holdsOf_21 0 rfl ?_
      have hob := hw.1
      obtain ⟨rv1, hp, hw⟩ := hw.2
      refine r_getP C fl_RX4_21_4 hob hp (fun _ _ _ => rfl) dX4_holdsOf_22 ?_
      refine r_iload_n C dX4_holdsOf_25 3 rfl ?_
      refine r_iaload C hw.1 hw.2.1 dX4_holdsOf_26 ?_
      replace hw := hw.2.2
      refine r_iadd C dX4_holdsOf_27 ?_
      refine r_topi fun iv2 eiv2 => ?_
      replace hw := hw iv2 eiv2
      refine r_istore_n C dX4_holdsOf_28 [(2, .int iv2), (0, .ref (G.1 + al0)), (1, .int xl1), (3, .int xl3)] (by decide) rfl ?_
      refine r_sub [1, 2, 0, 3] rfl ?_
      exact tb_X4_holdsOf_29 C hr hK4 hw
def wl_X4_holdsOf_4  (post : AH → Int32 → Prop) : Nat → AH → Nat → Int32 → Int32 → Int32 → Prop
  | 0 => fun _ _ _ _ _ => False
  | n + 1 => fun h al0 xl1 xl2 xl3 => wb_X4_holdsOf_4  (wl_X4_holdsOf_4  post n) h al0 xl1 xl2 xl3 post
theorem tl_X4_holdsOf_4 {G : GG} {p : Program} {l : Launch} {e : Env} {R : Room} {s : State} {m : MethodId} {args : Array Value} {below : List Frame} {meth : Method} {c : Code} {n0 s0 : Nat} {post : AH → Int32 → Prop} (C : Cx G p R s m args meth c 4 cX4_holdsOf RX4 n0 s0 0 0) (hr : meth.sig.returnType = (some .int))   : ∀ (n : Nat) (h : AH) (al0 : Nat) (xl1 : Int32) (xl2 : Int32) (xl3 : Int32), wl_X4_holdsOf_4  post n h al0 xl1 xl2 xl3 → AW G p l e R s m args below meth c 4 (QM G (pI post) args s below n0 s0) 4 [(0, .ref (G.1 + al0)), (1, .int xl1), (2, .int xl2), (3, .int xl3)] [] h := by
  intro n
  induction n with
  | zero => intro h al0 xl1 xl2 xl3 hw; exact hw.elim
  | succ n ih => intro h al0 xl1 xl2 xl3 hw; exact tb_X4_holdsOf_4 C hr  ih hw
def wp_X4_holdsOf (h : AH) (a0 : Nat) (x1 : Int32) (post : AH → Int32 → Prop) : Prop := ∃ n, wl_X4_holdsOf_4  post n h a0 x1 0 0
set_option maxRecDepth 100000 in
theorem c_X4_holdsOf (G : GG) (h : AH) (a0 : Nat) (x1 : Int32) (post : AH → Int32 → Prop) (hw : wp_X4_holdsOf h a0 x1 post) : MC G yX4_holdsOf cX4_holdsOf 4 (some .int) 0 0 h [.ref (G.1 + a0), .int x1] (pI post) := by
  refine MC.of (lv := [(0, .ref (G.1 + a0)), (1, .int x1)]) (by decide) (Nat.le_of_ble_eq_true rfl) rfl fun p l e R s m args below meth c C hr hnm => ?_
  unfold wp_X4_holdsOf at hw
  refine r_iconst (v := 0) C dX4_holdsOf_0 (by decide) ?_
  refine r_istore_n C dX4_holdsOf_1 [(2, .int 0), (0, .ref (G.1 + a0)), (1, .int x1)] (by decide) rfl ?_
  refine r_iconst (v := 0) C dX4_holdsOf_2 (by decide) ?_
  refine r_istore_n C dX4_holdsOf_3 [(3, .int 0), (2, .int 0), (0, .ref (G.1 + a0)), (1, .int x1)] (by decide) rfl ?_
  refine r_sub [2, 3, 1, 0] rfl ?_
  obtain ⟨n, hw⟩ := hw
  exact tl_X4_holdsOf_4 C hr  n _ _ _ _ _ hw
theorem dJ6_bitCount_0f7a4_0 : decode cJ6_bitCount_0f7a4 0 = .ok (.iload_n 0, 1) := by decide +kernel
theorem dJ6_bitCount_0f7a4_1 : decode cJ6_bitCount_0f7a4 1 = .ok (.iload_n 0, 1) := by decide +kernel
theorem dJ6_bitCount_0f7a4_2 : decode cJ6_bitCount_0f7a4 2 = .ok (.iconst 1, 1) := by decide +kernel
theorem dJ6_bitCount_0f7a4_3 : decode cJ6_bitCount_0f7a4 3 = .ok (.iushr, 1) := by decide +kernel
theorem dJ6_bitCount_0f7a4_4 : decode cJ6_bitCount_0f7a4 4 = .ok (.ldc_w 265, 3) := by decide +kernel
theorem dJ6_bitCount_0f7a4_7 : decode cJ6_bitCount_0f7a4 7 = .ok (.iand, 1) := by decide +kernel
theorem dJ6_bitCount_0f7a4_8 : decode cJ6_bitCount_0f7a4 8 = .ok (.isub, 1) := by decide +kernel
theorem dJ6_bitCount_0f7a4_9 : decode cJ6_bitCount_0f7a4 9 = .ok (.istore_n 0, 1) := by decide +kernel
theorem dJ6_bitCount_0f7a4_10 : decode cJ6_bitCount_0f7a4 10 = .ok (.iload_n 0, 1) := by decide +kernel
theorem dJ6_bitCount_0f7a4_11 : decode cJ6_bitCount_0f7a4 11 = .ok (.ldc_w 266, 3) := by decide +kernel
theorem dJ6_bitCount_0f7a4_14 : decode cJ6_bitCount_0f7a4 14 = .ok (.iand, 1) := by decide +kernel
theorem dJ6_bitCount_0f7a4_15 : decode cJ6_bitCount_0f7a4 15 = .ok (.iload_n 0, 1) := by decide +kernel
theorem dJ6_bitCount_0f7a4_16 : decode cJ6_bitCount_0f7a4 16 = .ok (.iconst 2, 1) := by decide +kernel
theorem dJ6_bitCount_0f7a4_17 : decode cJ6_bitCount_0f7a4 17 = .ok (.iushr, 1) := by decide +kernel
theorem dJ6_bitCount_0f7a4_18 : decode cJ6_bitCount_0f7a4 18 = .ok (.ldc_w 266, 3) := by decide +kernel
theorem dJ6_bitCount_0f7a4_21 : decode cJ6_bitCount_0f7a4 21 = .ok (.iand, 1) := by decide +kernel
theorem dJ6_bitCount_0f7a4_22 : decode cJ6_bitCount_0f7a4 22 = .ok (.iadd, 1) := by decide +kernel
theorem dJ6_bitCount_0f7a4_23 : decode cJ6_bitCount_0f7a4 23 = .ok (.istore_n 0, 1) := by decide +kernel
theorem dJ6_bitCount_0f7a4_24 : decode cJ6_bitCount_0f7a4 24 = .ok (.iload_n 0, 1) := by decide +kernel
theorem dJ6_bitCount_0f7a4_25 : decode cJ6_bitCount_0f7a4 25 = .ok (.iload_n 0, 1) := by decide +kernel
theorem dJ6_bitCount_0f7a4_26 : decode cJ6_bitCount_0f7a4 26 = .ok (.iconst 4, 1) := by decide +kernel
theorem dJ6_bitCount_0f7a4_27 : decode cJ6_bitCount_0f7a4 27 = .ok (.iushr, 1) := by decide +kernel
theorem dJ6_bitCount_0f7a4_28 : decode cJ6_bitCount_0f7a4 28 = .ok (.iadd, 1) := by decide +kernel
theorem dJ6_bitCount_0f7a4_29 : decode cJ6_bitCount_0f7a4 29 = .ok (.ldc_w 267, 3) := by decide +kernel
theorem dJ6_bitCount_0f7a4_32 : decode cJ6_bitCount_0f7a4 32 = .ok (.iand, 1) := by decide +kernel
theorem dJ6_bitCount_0f7a4_33 : decode cJ6_bitCount_0f7a4 33 = .ok (.istore_n 0, 1) := by decide +kernel
theorem dJ6_bitCount_0f7a4_34 : decode cJ6_bitCount_0f7a4 34 = .ok (.iload_n 0, 1) := by decide +kernel
theorem dJ6_bitCount_0f7a4_35 : decode cJ6_bitCount_0f7a4 35 = .ok (.iload_n 0, 1) := by decide +kernel
theorem dJ6_bitCount_0f7a4_36 : decode cJ6_bitCount_0f7a4 36 = .ok (.bipush 8, 2) := by decide +kernel
theorem dJ6_bitCount_0f7a4_38 : decode cJ6_bitCount_0f7a4 38 = .ok (.iushr, 1) := by decide +kernel
theorem dJ6_bitCount_0f7a4_39 : decode cJ6_bitCount_0f7a4 39 = .ok (.iadd, 1) := by decide +kernel
theorem dJ6_bitCount_0f7a4_40 : decode cJ6_bitCount_0f7a4 40 = .ok (.istore_n 0, 1) := by decide +kernel
theorem dJ6_bitCount_0f7a4_41 : decode cJ6_bitCount_0f7a4 41 = .ok (.iload_n 0, 1) := by decide +kernel
theorem dJ6_bitCount_0f7a4_42 : decode cJ6_bitCount_0f7a4 42 = .ok (.iload_n 0, 1) := by decide +kernel
theorem dJ6_bitCount_0f7a4_43 : decode cJ6_bitCount_0f7a4 43 = .ok (.bipush 16, 2) := by decide +kernel
theorem dJ6_bitCount_0f7a4_45 : decode cJ6_bitCount_0f7a4 45 = .ok (.iushr, 1) := by decide +kernel
theorem dJ6_bitCount_0f7a4_46 : decode cJ6_bitCount_0f7a4 46 = .ok (.iadd, 1) := by decide +kernel
theorem dJ6_bitCount_0f7a4_47 : decode cJ6_bitCount_0f7a4 47 = .ok (.istore_n 0, 1) := by decide +kernel
theorem dJ6_bitCount_0f7a4_48 : decode cJ6_bitCount_0f7a4 48 = .ok (.iload_n 0, 1) := by decide +kernel
theorem dJ6_bitCount_0f7a4_49 : decode cJ6_bitCount_0f7a4 49 = .ok (.bipush 63, 2) := by decide +kernel
theorem dJ6_bitCount_0f7a4_51 : decode cJ6_bitCount_0f7a4 51 = .ok (.iand, 1) := by decide +kernel
theorem dJ6_bitCount_0f7a4_52 : decode cJ6_bitCount_0f7a4 52 = .ok (.ireturn, 1) := by decide +kernel
def wp_J6_bitCount_0f7a4 (h : AH) (x0 : Int32) (post : AH → Int32 → Prop) : Prop := ∀ iv1 : Int32, iv1 = x0 - (((x0.toUInt32 >>> ((1 : Int32).toUInt32 &&& Int32.toUInt32 31)).toInt32) &&& (1431655765 : Int32)) → (∀ iv2 : Int32, iv2 = (iv1 &&& (858993459 : Int32)) + (((iv1.toUInt32 >>> ((2 : Int32).toUInt32 &&& Int32.toUInt32 31)).toInt32) &&& (858993459 : Int32)) → (∀ iv3 : Int32, iv3 = (iv2 + ((iv2.toUInt32 >>> ((4 : Int32).toUInt32 &&& Int32.toUInt32 31)).toInt32)) &&& (252645135 : Int32) → (∀ iv4 : Int32, iv4 = iv3 + ((iv3.toUInt32 >>> ((8 : Int32).toUInt32 &&& Int32.toUInt32 31)).toInt32) → (∀ iv5 : Int32, iv5 = iv4 + ((iv4.toUInt32 >>> ((16 : Int32).toUInt32 &&& Int32.toUInt32 31)).toInt32) → (post h (iv5 &&& (63 : Int32)))))))
set_option maxRecDepth 100000 in
theorem c_J6_bitCount_0f7a4 (G : GG) (h : AH) (x0 : Int32) (post : AH → Int32 → Prop) (hw : wp_J6_bitCount_0f7a4 h x0 post) : MC G yJ6_bitCount_0f7a4 cJ6_bitCount_0f7a4 1 (some .int) 0 0 h [.int x0] (pI post) := by
  refine MC.of (lv := [(0, .int x0)]) (by decide) (Nat.le_of_ble_eq_true rfl) rfl fun p l e R s m args below meth c C hr hnm => ?_
  unfold wp_J6_bitCount_0f7a4 at hw
  refine r_iload_n C dJ6_bitCount_0f7a4_0 0 rfl ?_
  refine r_iload_n C dJ6_bitCount_0f7a4_1 0 rfl ?_
  refine r_iconst (v := 1) C dJ6_bitCount_0f7a4_2 (by decide) ?_
  refine r_iushr C dJ6_bitCount_0f7a4_3 ?_
  refine r_ldcw (v := 1431655765) C (gm6 (List.mem_of_getElem? (i := 61) rfl) rfl) dJ6_bitCount_0f7a4_4 ?_
  refine r_iand C dJ6_bitCount_0f7a4_7 ?_
  refine r_isub C dJ6_bitCount_0f7a4_8 ?_
  refine r_topi fun iv1 eiv1 => ?_
  replace hw := hw iv1 eiv1
  refine r_istore_n C dJ6_bitCount_0f7a4_9 [(0, .int iv1)] (by decide) rfl ?_
  refine r_iload_n C dJ6_bitCount_0f7a4_10 0 rfl ?_
  refine r_ldcw (v := 858993459) C (gm6 (List.mem_of_getElem? (i := 62) rfl) rfl) dJ6_bitCount_0f7a4_11 ?_
  refine r_iand C dJ6_bitCount_0f7a4_14 ?_
  refine r_iload_n C dJ6_bitCount_0f7a4_15 0 rfl ?_
  refine r_iconst (v := 2) C dJ6_bitCount_0f7a4_16 (by decide) ?_
  refine r_iushr C dJ6_bitCount_0f7a4_17 ?_
  refine r_ldcw (v := 858993459) C (gm6 (List.mem_of_getElem? (i := 62) rfl) rfl) dJ6_bitCount_0f7a4_18 ?_
  refine r_iand C dJ6_bitCount_0f7a4_21 ?_
  refine r_iadd C dJ6_bitCount_0f7a4_22 ?_
  refine r_topi fun iv2 eiv2 => ?_
  replace hw := hw iv2 eiv2
  refine r_istore_n C dJ6_bitCount_0f7a4_23 [(0, .int iv2)] (by decide) rfl ?_
  refine r_iload_n C dJ6_bitCount_0f7a4_24 0 rfl ?_
  refine r_iload_n C dJ6_bitCount_0f7a4_25 0 rfl ?_
  refine r_iconst (v := 4) C dJ6_bitCount_0f7a4_26 (by decide) ?_
  refine r_iushr C dJ6_bitCount_0f7a4_27 ?_
  refine r_iadd C dJ6_bitCount_0f7a4_28 ?_
  refine r_ldcw (v := 252645135) C (gm6 (List.mem_of_getElem? (i := 63) rfl) rfl) dJ6_bitCount_0f7a4_29 ?_
  refine r_iand C dJ6_bitCount_0f7a4_32 ?_
  refine r_topi fun iv3 eiv3 => ?_
  replace hw := hw iv3 eiv3
  refine r_istore_n C dJ6_bitCount_0f7a4_33 [(0, .int iv3)] (by decide) rfl ?_
  refine r_iload_n C dJ6_bitCount_0f7a4_34 0 rfl ?_
  refine r_iload_n C dJ6_bitCount_0f7a4_35 0 rfl ?_
  refine r_bipush (v := 8) C dJ6_bitCount_0f7a4_36 (by decide) ?_
  refine r_iushr C dJ6_bitCount_0f7a4_38 ?_
  refine r_iadd C dJ6_bitCount_0f7a4_39 ?_
  refine r_topi fun iv4 eiv4 => ?_
  replace hw := hw iv4 eiv4
  refine r_istore_n C dJ6_bitCount_0f7a4_40 [(0, .int iv4)] (by decide) rfl ?_
  refine r_iload_n C dJ6_bitCount_0f7a4_41 0 rfl ?_
  refine r_iload_n C dJ6_bitCount_0f7a4_42 0 rfl ?_
  refine r_bipush (v := 16) C dJ6_bitCount_0f7a4_43 (by decide) ?_
  refine r_iushr C dJ6_bitCount_0f7a4_45 ?_
  refine r_iadd C dJ6_bitCount_0f7a4_46 ?_
  refine r_topi fun iv5 eiv5 => ?_
  replace hw := hw iv5 eiv5
  refine r_istore_n C dJ6_bitCount_0f7a4_47 [(0, .int iv5)] (by decide) rfl ?_
  refine r_iload_n C dJ6_bitCount_0f7a4_48 0 rfl ?_
  refine r_bipush (v := 63) C dJ6_bitCount_0f7a4_49 (by decide) ?_
  refine r_iand C dJ6_bitCount_0f7a4_51 ?_
  exact r_iret C hr dJ6_bitCount_0f7a4_52 hw
theorem dX1_leastCut_0 : decode cX1_leastCut 0 = .ok (.iconst (-1), 1) := by decide +kernel
theorem dX1_leastCut_1 : decode cX1_leastCut 1 = .ok (.istore_n 3, 1) := by decide +kernel
theorem dX1_leastCut_2 : decode cX1_leastCut 2 = .ok (.iconst 0, 1) := by decide +kernel
theorem dX1_leastCut_3 : decode cX1_leastCut 3 = .ok (.istore 4, 2) := by decide +kernel
theorem dX1_leastCut_5 : decode cX1_leastCut 5 = .ok (.iconst 0, 1) := by decide +kernel
theorem dX1_leastCut_6 : decode cX1_leastCut 6 = .ok (.istore 5, 2) := by decide +kernel
theorem dX1_leastCut_8 : decode cX1_leastCut 8 = .ok (.iload 5, 2) := by decide +kernel
theorem dX1_leastCut_10 : decode cX1_leastCut 10 = .ok (.iconst 1, 1) := by decide +kernel
theorem dX1_leastCut_11 : decode cX1_leastCut 11 = .ok (.aload_n 0, 1) := by decide +kernel
theorem dX1_leastCut_12 : decode cX1_leastCut 12 = .ok (.getfield 43, 3) := by decide +kernel
theorem dX1_leastCut_15 : decode cX1_leastCut 15 = .ok (.getfield 147, 3) := by decide +kernel
theorem dX1_leastCut_18 : decode cX1_leastCut 18 = .ok (.ishl, 1) := by decide +kernel
theorem dX1_leastCut_19 : decode cX1_leastCut 19 = .ok (.if_icmp .ge 80, 3) := by decide +kernel
theorem dX1_leastCut_22 : decode cX1_leastCut 22 = .ok (.aload_n 0, 1) := by decide +kernel
theorem dX1_leastCut_23 : decode cX1_leastCut 23 = .ok (.getfield 43, 3) := by decide +kernel
theorem dX1_leastCut_26 : decode cX1_leastCut 26 = .ok (.iload 5, 2) := by decide +kernel
theorem dX1_leastCut_28 : decode cX1_leastCut 28 = .ok (.invokevirtual 150, 3) := by decide +kernel
theorem dX1_leastCut_31 : decode cX1_leastCut 31 = .ok (.istore 6, 2) := by decide +kernel
theorem dX1_leastCut_33 : decode cX1_leastCut 33 = .ok (.iload_n 3, 1) := by decide +kernel
theorem dX1_leastCut_34 : decode cX1_leastCut 34 = .ok (.ifCond .lt 29, 3) := by decide +kernel
theorem dX1_leastCut_37 : decode cX1_leastCut 37 = .ok (.iload 6, 2) := by decide +kernel
theorem dX1_leastCut_39 : decode cX1_leastCut 39 = .ok (.iload 4, 2) := by decide +kernel
theorem dX1_leastCut_41 : decode cX1_leastCut 41 = .ok (.if_icmp .lt 22, 3) := by decide +kernel
theorem dX1_leastCut_44 : decode cX1_leastCut 44 = .ok (.iload 6, 2) := by decide +kernel
theorem dX1_leastCut_46 : decode cX1_leastCut 46 = .ok (.iload 4, 2) := by decide +kernel
theorem dX1_leastCut_48 : decode cX1_leastCut 48 = .ok (.if_icmp .ne 19, 3) := by decide +kernel
theorem dX1_leastCut_51 : decode cX1_leastCut 51 = .ok (.iload 5, 2) := by decide +kernel
theorem dX1_leastCut_53 : decode cX1_leastCut 53 = .ok (.invokestatic 154, 3) := by decide +kernel
theorem dX1_leastCut_56 : decode cX1_leastCut 56 = .ok (.iload_n 3, 1) := by decide +kernel
theorem dX1_leastCut_57 : decode cX1_leastCut 57 = .ok (.invokestatic 154, 3) := by decide +kernel
theorem dX1_leastCut_60 : decode cX1_leastCut 60 = .ok (.if_icmp .ge 7, 3) := by decide +kernel
theorem dX1_leastCut_63 : decode cX1_leastCut 63 = .ok (.iconst 1, 1) := by decide +kernel
theorem dX1_leastCut_64 : decode cX1_leastCut 64 = .ok (.goto 4, 3) := by decide +kernel
theorem dX1_leastCut_67 : decode cX1_leastCut 67 = .ok (.iconst 0, 1) := by decide +kernel
theorem dX1_leastCut_68 : decode cX1_leastCut 68 = .ok (.istore 7, 2) := by decide +kernel
theorem dX1_leastCut_70 : decode cX1_leastCut 70 = .ok (.iload 7, 2) := by decide +kernel
theorem dX1_leastCut_72 : decode cX1_leastCut 72 = .ok (.ifCond .eq 21, 3) := by decide +kernel
theorem dX1_leastCut_75 : decode cX1_leastCut 75 = .ok (.aload_n 0, 1) := by decide +kernel
theorem dX1_leastCut_76 : decode cX1_leastCut 76 = .ok (.iload_n 1, 1) := by decide +kernel
theorem dX1_leastCut_77 : decode cX1_leastCut 77 = .ok (.iload_n 2, 1) := by decide +kernel
theorem dX1_leastCut_78 : decode cX1_leastCut 78 = .ok (.iload 5, 2) := by decide +kernel
theorem dX1_leastCut_80 : decode cX1_leastCut 80 = .ok (.invokevirtual 159, 3) := by decide +kernel
theorem dX1_leastCut_83 : decode cX1_leastCut 83 = .ok (.ifCond .ne 10, 3) := by decide +kernel
theorem dX1_leastCut_86 : decode cX1_leastCut 86 = .ok (.iload 5, 2) := by decide +kernel
theorem dX1_leastCut_88 : decode cX1_leastCut 88 = .ok (.istore_n 3, 1) := by decide +kernel
theorem dX1_leastCut_89 : decode cX1_leastCut 89 = .ok (.iload 6, 2) := by decide +kernel
theorem dX1_leastCut_91 : decode cX1_leastCut 91 = .ok (.istore 4, 2) := by decide +kernel
theorem dX1_leastCut_93 : decode cX1_leastCut 93 = .ok (.iinc 5 1, 3) := by decide +kernel
theorem dX1_leastCut_96 : decode cX1_leastCut 96 = .ok (.goto (-88), 3) := by decide +kernel
theorem dX1_leastCut_99 : decode cX1_leastCut 99 = .ok (.iload_n 3, 1) := by decide +kernel
theorem dX1_leastCut_100 : decode cX1_leastCut 100 = .ok (.ireturn, 1) := by decide +kernel
def wb_X1_leastCut_93 (K8 : AH → Nat → Int32 → Int32 → Int32 → Int32 → Int32 → Prop) (h : AH) (al0 : Nat) (xl1 : Int32) (xl2 : Int32) (xl3 : Int32) (xl4 : Int32) (xl5 : Int32)  (post : AH → Int32 → Prop) : Prop := ∀ iv1 : Int32, iv1 = xl5 + 1 → (K8 h al0 xl1 xl2 xl3 xl4 iv1)
set_option maxRecDepth 100000 in
theorem tb_X1_leastCut_93 {G : GG} {p : Program} {l : Launch} {e : Env} {R : Room} {s : State} {m : MethodId} {args : Array Value} {below : List Frame} {meth : Method} {c : Code} {n0 s0 : Nat} {post : AH → Int32 → Prop} (C : Cx G p R s m args meth c 8 cX1_leastCut RX1 n0 s0 2 54) (hr : meth.sig.returnType = (some .int)) {K8 : AH → Nat → Int32 → Int32 → Int32 → Int32 → Int32 → Prop} (hK8 : ∀ (h : AH) (al0 : Nat) (xl1 : Int32) (xl2 : Int32) (xl3 : Int32) (xl4 : Int32) (xl5 : Int32), K8 h al0 xl1 xl2 xl3 xl4 xl5 → AW G p l e R s m args below meth c 8 (QM G (pI post) args s below n0 s0) 8 [(0, .ref (G.1 + al0)), (1, .int xl1), (2, .int xl2), (3, .int xl3), (4, .int xl4), (5, .int xl5)] [] h) {h : AH} {al0 : Nat} {xl1 : Int32} {xl2 : Int32} {xl3 : Int32} {xl4 : Int32} {xl5 : Int32}  (hw : wb_X1_leastCut_93 K8 h al0 xl1 xl2 xl3 xl4 xl5 post) : AW G p l e R s m args below meth c 8 (QM G (pI post) args s below n0 s0) 93 [(0, .ref (G.1 + al0)), (1, .int xl1), (2, .int xl2), (3, .int xl3), (4, .int xl4), (5, .int xl5)] [] h := by
  unfold wb_X1_leastCut_93 at hw
  obtain ⟨iv1, eiv1⟩ : ∃ q : Int32, q = xl5 + 1 := ⟨_, rfl⟩
  replace hw := hw iv1 eiv1
  refine r_iinc C dX1_leastCut_93 5 rfl (by rw [eiv1]; rfl) [(5, .int iv1), (0, .ref (G.1 + al0)), (1, .int xl1), (2, .int xl2), (3, .int xl3), (4, .int xl4)] (by decide) rfl ?_
  refine r_goto C dX1_leastCut_96 8 (by decide) ?_
  refine r_sub [1, 2, 3, 4, 5, 0] rfl ?_
  exact hK8 _ _ _ _ _ _ _ hw
def wb_X1_leastCut_68 (K8 : AH → Nat → Int32 → Int32 → Int32 → Int32 → Int32 → Prop) (h : AH) (al0 : Nat) (xl1 : Int32) (xl2 : Int32) (xl3 : Int32) (xl4 : Int32) (xl5 : Int32) (xl6 : Int32) (xs0 : Int32) (post : AH → Int32 → Prop) : Prop := (xs0 = 0 → (wb_X1_leastCut_93 K8 h al0 xl1 xl2 xl3 xl4 xl5 post)) ∧ (¬ xs0 = 0 → ((ob h al0 1) ∧ wp_X1_isDriven h al0 xl1 xl2 xl5 (fun hv1 iv2 => (¬ iv2 = 0 → (wb_X1_leastCut_93 K8 hv1 al0 xl1 xl2 xl3 xl4 xl5 post)) ∧ (iv2 = 0 → (wb_X1_leastCut_93 K8 hv1 al0 xl1 xl2 xl5 xl6 xl5 post)))))
set_option maxRecDepth 100000 in
theorem tb_X1_leastCut_68 {G : GG} {p : Program} {l : Launch} {e : Env} {R : Room} {s : State} {m : MethodId} {args : Array Value} {below : List Frame} {meth : Method} {c : Code} {n0 s0 : Nat} {post : AH → Int32 → Prop} (C : Cx G p R s m args meth c 8 cX1_leastCut RX1 n0 s0 2 54) (hr : meth.sig.returnType = (some .int)) {K8 : AH → Nat → Int32 → Int32 → Int32 → Int32 → Int32 → Prop} (hK8 : ∀ (h : AH) (al0 : Nat) (xl1 : Int32) (xl2 : Int32) (xl3 : Int32) (xl4 : Int32) (xl5 : Int32), K8 h al0 xl1 xl2 xl3 xl4 xl5 → AW G p l e R s m args below meth c 8 (QM G (pI post) args s below n0 s0) 8 [(0, .ref (G.1 + al0)), (1, .int xl1), (2, .int xl2), (3, .int xl3), (4, .int xl4), (5, .int xl5)] [] h) {h : AH} {al0 : Nat} {xl1 : Int32} {xl2 : Int32} {xl3 : Int32} {xl4 : Int32} {xl5 : Int32} {xl6 : Int32} {xs0 : Int32} (hw : wb_X1_leastCut_68 K8 h al0 xl1 xl2 xl3 xl4 xl5 xl6 xs0 post) : AW G p l e R s m args below meth c 8 (QM G (pI post) args s below n0 s0) 68 [(0, .ref (G.1 + al0)), (1, .int xl1), (2, .int xl2), (3, .int xl3), (4, .int xl4), (5, .int xl5), (6, .int xl6)] [.int xs0] h := by
  unfold wb_X1_leastCut_68 at hw
  refine r_istore C dX1_leastCut_68 [(7, .int xs0), (0, .ref (G.1 + al0)), (1, .int xl1), (2, .int xl2), (3, .int xl3), (4, .int xl4), (5, .int xl5), (6, .int xl6)] (by decide) rfl ?_
  refine r_iload C dX1_leastCut_70 0 rfl ?_
  refine r_if_eq C dX1_leastCut_72 93 (by decide) (fun hc => ?_) (fun hc => ?_)
  · replace hw := hw.1 hc
    refine r_sub [1, 2, 3, 4, 5, 6] rfl ?_
    exact tb_X1_leastCut_93 C hr hK8 hw
  · replace hw := hw.2 hc
    refine r_aload_n C dX1_leastCut_75 1 rfl ?_
    refine r_iload_n C dX1_leastCut_76 2 rfl ?_
    refine r_iload_n C dX1_leastCut_77 3 rfl ?_
    refine r_iload C dX1_leastCut_78 6 rfl ?_
    have hob := hw.1
    replace hw := hw.2
    refine r_callV C (As := [.int xl1, .int xl2, .int xl5]) (rest := []) (c_X1_isDriven G h al0 xl1 xl2 xl5 _ hw) yl_X1_isDriven (gm6 (List.mem_of_getElem? (i := 64) rfl) rfl) (gm6 (List.mem_of_getElem? (i := 39) rfl) rfl) (ci := 1) rfl (by decide) (gm6 (List.mem_of_getElem? (i := 40) rfl) rfl) hob (by decide) rfl (Nat.le_of_ble_eq_true rfl) dX1_leastCut_80 rfl (kI fun hv1 iv2 hw => ?_)
    refine r_if_ne C dX1_leastCut_83 93 (by decide) (fun hc => ?_) (fun hc => ?_)
    · replace hw := hw.1 hc
      refine r_sub [1, 2, 3, 4, 5, 6] rfl ?_
      exact tb_X1_leastCut_93 C hr hK8 hw
    · replace hw := hw.2 hc
      refine r_iload C dX1_leastCut_86 6 rfl ?_
      refine r_istore_n C dX1_leastCut_88 [(3, .int xl5), (7, .int xs0), (0, .ref (G.1 + al0)), (1, .int xl1), (2, .int xl2), (4, .int xl4), (5, .int xl5), (6, .int xl6)] (by decide) rfl ?_
      refine r_iload C dX1_leastCut_89 7 rfl ?_
      refine r_istore C dX1_leastCut_91 [(4, .int xl6), (3, .int xl5), (7, .int xs0), (0, .ref (G.1 + al0)), (1, .int xl1), (2, .int xl2), (5, .int xl5), (6, .int xl6)] (by decide) rfl ?_
      refine r_sub [3, 4, 5, 1, 0, 6] rfl ?_
      exact tb_X1_leastCut_93 C hr hK8 hw
def wb_X1_leastCut_67 (K8 : AH → Nat → Int32 → Int32 → Int32 → Int32 → Int32 → Prop) (h : AH) (al0 : Nat) (xl1 : Int32) (xl2 : Int32) (xl3 : Int32) (xl4 : Int32) (xl5 : Int32) (xl6 : Int32)  (post : AH → Int32 → Prop) : Prop := wb_X1_leastCut_68 K8 h al0 xl1 xl2 xl3 xl4 xl5 xl6 0 post
set_option maxRecDepth 100000 in
theorem tb_X1_leastCut_67 {G : GG} {p : Program} {l : Launch} {e : Env} {R : Room} {s : State} {m : MethodId} {args : Array Value} {below : List Frame} {meth : Method} {c : Code} {n0 s0 : Nat} {post : AH → Int32 → Prop} (C : Cx G p R s m args meth c 8 cX1_leastCut RX1 n0 s0 2 54) (hr : meth.sig.returnType = (some .int)) {K8 : AH → Nat → Int32 → Int32 → Int32 → Int32 → Int32 → Prop} (hK8 : ∀ (h : AH) (al0 : Nat) (xl1 : Int32) (xl2 : Int32) (xl3 : Int32) (xl4 : Int32) (xl5 : Int32), K8 h al0 xl1 xl2 xl3 xl4 xl5 → AW G p l e R s m args below meth c 8 (QM G (pI post) args s below n0 s0) 8 [(0, .ref (G.1 + al0)), (1, .int xl1), (2, .int xl2), (3, .int xl3), (4, .int xl4), (5, .int xl5)] [] h) {h : AH} {al0 : Nat} {xl1 : Int32} {xl2 : Int32} {xl3 : Int32} {xl4 : Int32} {xl5 : Int32} {xl6 : Int32}  (hw : wb_X1_leastCut_67 K8 h al0 xl1 xl2 xl3 xl4 xl5 xl6 post) : AW G p l e R s m args below meth c 8 (QM G (pI post) args s below n0 s0) 67 [(0, .ref (G.1 + al0)), (1, .int xl1), (2, .int xl2), (3, .int xl3), (4, .int xl4), (5, .int xl5), (6, .int xl6)] [] h := by
  unfold wb_X1_leastCut_67 at hw
  refine r_iconst (v := 0) C dX1_leastCut_67 (by decide) ?_
  refine r_sub [0, 1, 2, 3, 4, 5, 6] rfl ?_
  exact tb_X1_leastCut_68 C hr hK8 hw
def wb_X1_leastCut_63 (K8 : AH → Nat → Int32 → Int32 → Int32 → Int32 → Int32 → Prop) (h : AH) (al0 : Nat) (xl1 : Int32) (xl2 : Int32) (xl3 : Int32) (xl4 : Int32) (xl5 : Int32) (xl6 : Int32)  (post : AH → Int32 → Prop) : Prop := wb_X1_leastCut_68 K8 h al0 xl1 xl2 xl3 xl4 xl5 xl6 1 post
set_option maxRecDepth 100000 in
theorem tb_X1_leastCut_63 {G : GG} {p : Program} {l : Launch} {e : Env} {R : Room} {s : State} {m : MethodId} {args : Array Value} {below : List Frame} {meth : Method} {c : Code} {n0 s0 : Nat} {post : AH → Int32 → Prop} (C : Cx G p R s m args meth c 8 cX1_leastCut RX1 n0 s0 2 54) (hr : meth.sig.returnType = (some .int)) {K8 : AH → Nat → Int32 → Int32 → Int32 → Int32 → Int32 → Prop} (hK8 : ∀ (h : AH) (al0 : Nat) (xl1 : Int32) (xl2 : Int32) (xl3 : Int32) (xl4 : Int32) (xl5 : Int32), K8 h al0 xl1 xl2 xl3 xl4 xl5 → AW G p l e R s m args below meth c 8 (QM G (pI post) args s below n0 s0) 8 [(0, .ref (G.1 + al0)), (1, .int xl1), (2, .int xl2), (3, .int xl3), (4, .int xl4), (5, .int xl5)] [] h) {h : AH} {al0 : Nat} {xl1 : Int32} {xl2 : Int32} {xl3 : Int32} {xl4 : Int32} {xl5 : Int32} {xl6 : Int32}  (hw : wb_X1_leastCut_63 K8 h al0 xl1 xl2 xl3 xl4 xl5 xl6 post) : AW G p l e R s m args below meth c 8 (QM G (pI post) args s below n0 s0) 63 [(0, .ref (G.1 + al0)), (1, .int xl1), (2, .int xl2), (3, .int xl3), (4, .int xl4), (5, .int xl5), (6, .int xl6)] [] h := by
  unfold wb_X1_leastCut_63 at hw
  refine r_iconst (v := 1) C dX1_leastCut_63 (by decide) ?_
  refine r_goto C dX1_leastCut_64 68 (by decide) ?_
  refine r_sub [0, 1, 2, 3, 4, 5, 6] rfl ?_
  exact tb_X1_leastCut_68 C hr hK8 hw
def wb_X1_leastCut_8 (K8 : AH → Nat → Int32 → Int32 → Int32 → Int32 → Int32 → Prop) (h : AH) (al0 : Nat) (xl1 : Int32) (xl2 : Int32) (xl3 : Int32) (xl4 : Int32) (xl5 : Int32)  (post : AH → Int32 → Prop) : Prop := (ob h al0 1) ∧ (∃ rv1, aP h al0 14 = some rv1 ∧ ((ob h rv1 4) ∧ ((((1 : Int32) <<< ((aI h rv1 0) &&& 31)) ≤ xl5 → (post h xl3)) ∧ (¬ ((1 : Int32) <<< ((aI h rv1 0) &&& 31)) ≤ xl5 → ((ob h al0 1) ∧ (∃ rv2, aP h al0 14 = some rv2 ∧ ((ob h rv2 4) ∧ wp_X4_holdsOf h rv2 xl5 (fun hv3 iv4 => (xl3 < 0 → (wb_X1_leastCut_63 K8 hv3 al0 xl1 xl2 xl3 xl4 xl5 iv4 post)) ∧ (¬ xl3 < 0 → ((iv4 < xl4 → (wb_X1_leastCut_63 K8 hv3 al0 xl1 xl2 xl3 xl4 xl5 iv4 post)) ∧ (¬ iv4 < xl4 → ((¬ iv4 = xl4 → (wb_X1_leastCut_67 K8 hv3 al0 xl1 xl2 xl3 xl4 xl5 iv4 post)) ∧ (iv4 = xl4 → (wp_J6_bitCount_0f7a4 hv3 xl5 (fun hv5 iv6 => wp_J6_bitCount_0f7a4 hv5 xl3 (fun hv7 iv8 => (iv8 ≤ iv6 → (wb_X1_leastCut_67 K8 hv7 al0 xl1 xl2 xl3 xl4 xl5 iv4 post)) ∧ (¬ iv8 ≤ iv6 → (wb_X1_leastCut_63 K8 hv7 al0 xl1 xl2 xl3 xl4 xl5 iv4 post))))))))))))))))))
set_option maxRecDepth 100000 in
theorem tb_X1_leastCut_8 {G : GG} {p : Program} {l : Launch} {e : Env} {R : Room} {s : State} {m : MethodId} {args : Array Value} {below : List Frame} {meth : Method} {c : Code} {n0 s0 : Nat} {post : AH → Int32 → Prop} (C : Cx G p R s m args meth c 8 cX1_leastCut RX1 n0 s0 2 54) (hr : meth.sig.returnType = (some .int)) {K8 : AH → Nat → Int32 → Int32 → Int32 → Int32 → Int32 → Prop} (hK8 : ∀ (h : AH) (al0 : Nat) (xl1 : Int32) (xl2 : Int32) (xl3 : Int32) (xl4 : Int32) (xl5 : Int32), K8 h al0 xl1 xl2 xl3 xl4 xl5 → AW G p l e R s m args below meth c 8 (QM G (pI post) args s below n0 s0) 8 [(0, .ref (G.1 + al0)), (1, .int xl1), (2, .int xl2), (3, .int xl3), (4, .int xl4), (5, .int xl5)] [] h) {h : AH} {al0 : Nat} {xl1 : Int32} {xl2 : Int32} {xl3 : Int32} {xl4 : Int32} {xl5 : Int32}  (hw : wb_X1_leastCut_8 K8 h al0 xl1 xl2 xl3 xl4 xl5 post) : AW G p l e R s m args below meth c 8 (QM G (pI post) args s below n0 s0) 8 [(0, .ref (G.1 + al0)), (1, .int xl1), (2, .int xl2), (3, .int xl3), (4, .int xl4), (5, .int xl5)] [] h := by
  unfold wb_X1_leastCut_8 at hw
  refine r_iload C dX1_leastCut_8 5 rfl ?_
  refine r_iconst (v := 1) C dX1_leastCut_10 (by decide) ?_
  refine r_aload_n C dX1_leastCut_11 0 rfl ?_
  have hob := hw.1
  obtain ⟨rv1, hp, hw⟩ := hw.2
  refine r_getP C fl_RX1_43_1 hob hp (fun _ _ _ => rfl) dX1_leastCut_12 ?_
  refine r_getI C fl_RX1_147_4 hw.1 (fun _ _ _ => rfl) dX1_leastCut_15 ?_
  replace hw := hw.2
  refine r_ishl C dX1_leastCut_18 ?_
  refine r_icmp_ge C dX1_leastCut_19 99 (by decide) (fun hc => ?_) (fun hc => ?_)
  · replace hw := hw.1 hc
    refine r_iload_n C dX1_leastCut_99 3 rfl ?_
    exact r_iret C hr dX1_leastCut_100 hw
  · replace hw := hw.2 hc
    refine r_aload_n C dX1_leastCut_22 0 rfl ?_
    have hob := hw.1
    obtain ⟨rv2, hp, hw⟩ := hw.2
    refine r_getP C fl_RX1_43_1 hob hp (fun _ _ _ => rfl) dX1_leastCut_23 ?_
    refine r_iload C dX1_leastCut_26 5 rfl ?_
    have hob := hw.1
    replace hw := hw.2
    refine r_callV C (As := [.int xl5]) (rest := []) (c_X4_holdsOf G h rv2 xl5 _ hw) yl_X4_holdsOf (gm6 (List.mem_of_getElem? (i := 54) rfl) rfl) (gm6 (List.mem_of_getElem? (i := 55) rfl) rfl) (ci := 4) rfl (by decide) (gm6 (List.mem_of_getElem? (i := 56) rfl) rfl) hob (by decide) rfl (Nat.le_of_ble_eq_true rfl) dX1_leastCut_28 rfl (kI fun hv3 iv4 hw => ?_)
    refine r_istore C dX1_leastCut_31 [(6, .int iv4), (0, .ref (G.1 + al0)), (1, .int xl1), (2, .int xl2), (3, .int xl3), (4, .int xl4), (5, .int xl5)] (by decide) rfl ?_
    refine r_iload_n C dX1_leastCut_33 4 rfl ?_
    refine r_if_lt C dX1_leastCut_34 63 (by decide) (fun hc => ?_) (fun hc => ?_)
    · replace hw := hw.1 hc
      refine r_sub [1, 2, 3, 4, 5, 6, 0] rfl ?_
      exact tb_X1_leastCut_63 C hr hK8 hw
    · replace hw := hw.2 hc
      refine r_iload C dX1_leastCut_37 0 rfl ?_
      refine r_iload C dX1_leastCut_39 5 rfl ?_
      refine r_icmp_lt C dX1_leastCut_41 63 (by decide) (fun hc => ?_) (fun hc => ?_)
      · replace hw := hw.1 hc
        refine r_sub [1, 2, 3, 4, 5, 6, 0] rfl ?_
        exact tb_X1_leastCut_63 C hr hK8 hw
      · replace hw := hw.2 hc
        refine r_iload C dX1_leastCut_44 0 rfl ?_
        refine r_iload C dX1_leastCut_46 5 rfl ?_
        refine r_icmp_ne C dX1_leastCut_48 67 (by decide) (fun hc => ?_) (fun hc => ?_)
        · replace hw := hw.1 hc
          refine r_sub [1, 2, 3, 4, 5, 6, 0] rfl ?_
          exact tb_X1_leastCut_67 C hr hK8 hw
        · replace hw := hw.2 hc
          refine r_iload C dX1_leastCut_51 6 rfl ?_
          refine r_callS C (As := [.int xl5]) (rest := []) (c_J6_bitCount_0f7a4 G hv3 xl5 _ hw) yl_J6_bitCount_0f7a4 (gm6 (List.mem_of_getElem? (i := 58) rfl) rfl) (gm6 (List.mem_of_getElem? (i := 59) rfl) rfl) (by decide) rfl (Nat.le_of_ble_eq_true rfl) dX1_leastCut_53 rfl (kI fun hv5 iv6 hw => ?_)
          refine r_iload_n C dX1_leastCut_56 4 rfl ?_
          refine r_callS C (As := [.int xl3]) (rest := [.int iv6]) (c_J6_bitCount_0f7a4 G hv5 xl3 _ hw) yl_J6_bitCount_0f7a4 (gm6 (List.mem_of_getElem? (i := 58) rfl) rfl) (gm6 (List.mem_of_getElem? (i := 59) rfl) rfl) (by decide) rfl (Nat.le_of_ble_eq_true rfl) dX1_leastCut_57 rfl (kI fun hv7 iv8 hw => ?_)
          refine r_icmp_ge C dX1_leastCut_60 67 (by decide) (fun hc => ?_) (fun hc => ?_)
          · replace hw := hw.1 hc
            refine r_sub [1, 2, 3, 4, 5, 6, 0] rfl ?_
            exact tb_X1_leastCut_67 C hr hK8 hw
          · replace hw := hw.2 hc
            refine r_sub [1, 2, 3, 4, 5, 6, 0] rfl ?_
            exact tb_X1_leastCut_63 C hr hK8 hw
def wl_X1_leastCut_8  (post : AH → Int32 → Prop) : Nat → AH → Nat → Int32 → Int32 → Int32 → Int32 → Int32 → Prop
  | 0 => fun _ _ _ _ _ _ _ => False
  | n + 1 => fun h al0 xl1 xl2 xl3 xl4 xl5 => wb_X1_leastCut_8  (wl_X1_leastCut_8  post n) h al0 xl1 xl2 xl3 xl4 xl5 post
theorem tl_X1_leastCut_8 {G : GG} {p : Program} {l : Launch} {e : Env} {R : Room} {s : State} {m : MethodId} {args : Array Value} {below : List Frame} {meth : Method} {c : Code} {n0 s0 : Nat} {post : AH → Int32 → Prop} (C : Cx G p R s m args meth c 8 cX1_leastCut RX1 n0 s0 2 54) (hr : meth.sig.returnType = (some .int))   : ∀ (n : Nat) (h : AH) (al0 : Nat) (xl1 : Int32) (xl2 : Int32) (xl3 : Int32) (xl4 : Int32) (xl5 : Int32), wl_X1_leastCut_8  post n h al0 xl1 xl2 xl3 xl4 xl5 → AW G p l e R s m args below meth c 8 (QM G (pI post) args s below n0 s0) 8 [(0, .ref (G.1 + al0)), (1, .int xl1), (2, .int xl2), (3, .int xl3), (4, .int xl4), (5, .int xl5)] [] h := by
  intro n
  induction n with
  | zero => intro h al0 xl1 xl2 xl3 xl4 xl5 hw; exact hw.elim
  | succ n ih => intro h al0 xl1 xl2 xl3 xl4 xl5 hw; exact tb_X1_leastCut_8 C hr  ih hw
def wp_X1_leastCut (h : AH) (a0 : Nat) (x1 : Int32) (x2 : Int32) (post : AH → Int32 → Prop) : Prop := ∃ n, wl_X1_leastCut_8  post n h a0 x1 x2 (-1) 0 0
set_option maxRecDepth 100000 in
theorem c_X1_leastCut (G : GG) (h : AH) (a0 : Nat) (x1 : Int32) (x2 : Int32) (post : AH → Int32 → Prop) (hw : wp_X1_leastCut h a0 x1 x2 post) : MC G yX1_leastCut cX1_leastCut 8 (some .int) 2 54 h [.ref (G.1 + a0), .int x1, .int x2] (pI post) := by
  refine MC.of (lv := [(0, .ref (G.1 + a0)), (1, .int x1), (2, .int x2)]) (by decide) (Nat.le_of_ble_eq_true rfl) rfl fun p l e R s m args below meth c C hr hnm => ?_
  unfold wp_X1_leastCut at hw
  refine r_iconst (v := (-1)) C dX1_leastCut_0 (by decide) ?_
  refine r_istore_n C dX1_leastCut_1 [(3, .int (-1)), (0, .ref (G.1 + a0)), (1, .int x1), (2, .int x2)] (by decide) rfl ?_
  refine r_iconst (v := 0) C dX1_leastCut_2 (by decide) ?_
  refine r_istore C dX1_leastCut_3 [(4, .int 0), (3, .int (-1)), (0, .ref (G.1 + a0)), (1, .int x1), (2, .int x2)] (by decide) rfl ?_
  refine r_iconst (v := 0) C dX1_leastCut_5 (by decide) ?_
  refine r_istore C dX1_leastCut_6 [(5, .int 0), (4, .int 0), (3, .int (-1)), (0, .ref (G.1 + a0)), (1, .int x1), (2, .int x2)] (by decide) rfl ?_
  refine r_sub [3, 4, 5, 2, 1, 0] rfl ?_
  obtain ⟨n, hw⟩ := hw
  exact tl_X1_leastCut_8 C hr  n _ _ _ _ _ _ _ hw
theorem dX7_begin_0 : decode cX7_begin 0 = .ok (.aload_n 0, 1) := by decide +kernel
theorem dX7_begin_1 : decode cX7_begin 1 = .ok (.aload_n 1, 1) := by decide +kernel
theorem dX7_begin_2 : decode cX7_begin 2 = .ok (.putfield 15, 3) := by decide +kernel
theorem dX7_begin_5 : decode cX7_begin 5 = .ok (.aload_n 0, 1) := by decide +kernel
theorem dX7_begin_6 : decode cX7_begin 6 = .ok (.iload_n 2, 1) := by decide +kernel
theorem dX7_begin_7 : decode cX7_begin 7 = .ok (.aload_n 1, 1) := by decide +kernel
theorem dX7_begin_8 : decode cX7_begin 8 = .ok (.arraylength, 1) := by decide +kernel
theorem dX7_begin_9 : decode cX7_begin 9 = .ok (.invokestatic 31, 3) := by decide +kernel
theorem dX7_begin_12 : decode cX7_begin 12 = .ok (.putfield 37, 3) := by decide +kernel
theorem dX7_begin_15 : decode cX7_begin 15 = .ok (.aload_n 0, 1) := by decide +kernel
theorem dX7_begin_16 : decode cX7_begin 16 = .ok (.iload_n 3, 1) := by decide +kernel
theorem dX7_begin_17 : decode cX7_begin 17 = .ok (.putfield 40, 3) := by decide +kernel
theorem dX7_begin_20 : decode cX7_begin 20 = .ok (.aload_n 0, 1) := by decide +kernel
theorem dX7_begin_21 : decode cX7_begin 21 = .ok (.iconst 0, 1) := by decide +kernel
theorem dX7_begin_22 : decode cX7_begin 22 = .ok (.putfield 43, 3) := by decide +kernel
theorem dX7_begin_25 : decode cX7_begin 25 = .ok (.aload_n 0, 1) := by decide +kernel
theorem dX7_begin_26 : decode cX7_begin 26 = .ok (.iconst 0, 1) := by decide +kernel
theorem dX7_begin_27 : decode cX7_begin 27 = .ok (.putfield 46, 3) := by decide +kernel
theorem dX7_begin_30 : decode cX7_begin 30 = .ok (.aload_n 0, 1) := by decide +kernel
theorem dX7_begin_31 : decode cX7_begin 31 = .ok (.iconst 0, 1) := by decide +kernel
theorem dX7_begin_32 : decode cX7_begin 32 = .ok (.putfield 49, 3) := by decide +kernel
theorem dX7_begin_35 : decode cX7_begin 35 = .ok (.aload_n 0, 1) := by decide +kernel
theorem dX7_begin_36 : decode cX7_begin 36 = .ok (.iconst 0, 1) := by decide +kernel
theorem dX7_begin_37 : decode cX7_begin 37 = .ok (.putfield 52, 3) := by decide +kernel
theorem dX7_begin_40 : decode cX7_begin 40 = .ok (.return_, 1) := by decide +kernel
def wp_X7_begin (ci : Nat) (h : AH) (a0 : Nat) (a1 : Nat) (x2 : Int32) (x3 : Int32) (post : AH → Prop) : Prop := (ob h a0 ci) ∧ (∀ hv1 : AH, hv1 = hP h a0 1 a1 → (((aK hv1 a1 = 12 ∨ aK hv1 a1 = 13 ∨ aK hv1 a1 = 14) ∧ a1 < aN hv1) ∧ ((ob hv1 a0 ci) ∧ (∀ hv2 : AH, hv2 = hI hv1 a0 2 (mn x2 (nI (aL hv1 a1))) → ((ob hv2 a0 ci) ∧ (∀ hv3 : AH, hv3 = hI hv2 a0 3 x3 → ((ob hv3 a0 ci) ∧ (∀ hv4 : AH, hv4 = hI hv3 a0 4 0 → ((ob hv4 a0 ci) ∧ (∀ hv5 : AH, hv5 = hI hv4 a0 5 0 → ((ob hv5 a0 ci) ∧ (∀ hv6 : AH, hv6 = hI hv5 a0 10 0 → ((ob hv6 a0 ci) ∧ (∀ hv7 : AH, hv7 = hI hv6 a0 11 0 → (post hv7)))))))))))))))
set_option maxRecDepth 100000 in
theorem c_X7_begin {ci : Nat} (hci : ci = 2 ∨ ci = 3) (G : GG) (h : AH) (a0 : Nat) (a1 : Nat) (x2 : Int32) (x3 : Int32) (post : AH → Prop) (hw : wp_X7_begin ci h a0 a1 x2 x3 post) : MC G yX7_begin cX7_begin 4 none 1 21 h [.ref (G.1 + a0), .ref (G.1 + a1), .int x2, .int x3] (pV post) := by
  refine MC.of (lv := [(0, .ref (G.1 + a0)), (1, .ref (G.1 + a1)), (2, .int x2), (3, .int x3)]) (by decide) (Nat.le_of_ble_eq_true rfl) rfl fun p l e R s m args below meth c C hr hnm => ?_
  unfold wp_X7_begin at hw
  rcases hci with rfl | rfl
  · refine r_aload_n C dX7_begin_0 0 rfl ?_
    refine r_aload_n C dX7_begin_1 1 rfl ?_
    refine r_putP C fp_RX7_15_2 hw.1 (fun _ _ _ => rfl) dX7_begin_2 ?_
    replace hw := hw.2
    refine r_toph fun hv1 ehv1 => ?_
    replace hw := hw hv1 ehv1
    refine r_aload_n C dX7_begin_5 0 rfl ?_
    refine r_iload_n C dX7_begin_6 2 rfl ?_
    refine r_aload_n C dX7_begin_7 1 rfl ?_
    refine r_alen C hw.1 dX7_begin_8 ?_
    replace hw := hw.2
    refine r_mmin C (gm3 (List.mem_of_getElem? (i := 121) rfl) rfl) (gm3 (List.mem_of_getElem? (i := 122) rfl) rfl) (gm1 (List.mem_of_getElem? (i := 19) rfl) rfl) (gm3 (List.mem_of_getElem? (i := 123) rfl) rfl) ⟨by decide, Nat.le_of_ble_eq_true rfl⟩ dX7_begin_9 ?_
    refine r_putI C fp_RX7_37_2 hw.1 rfl dX7_begin_12 ?_
    replace hw := hw.2
    refine r_toph fun hv2 ehv2 => ?_
    replace hw := hw hv2 ehv2
    refine r_aload_n C dX7_begin_15 0 rfl ?_
    refine r_iload_n C dX7_begin_16 3 rfl ?_
    refine r_putI C fp_RX7_40_2 hw.1 rfl dX7_begin_17 ?_
    replace hw := hw.2
    refine r_toph fun hv3 ehv3 => ?_
    replace hw := hw hv3 ehv3
    refine r_aload_n C dX7_begin_20 0 rfl ?_
    refine r_iconst (v := 0) C dX7_begin_21 (by decide) ?_
    refine r_putI C fp_RX7_43_2 hw.1 rfl dX7_begin_22 ?_
    replace hw := hw.2
    refine r_toph fun hv4 ehv4 => ?_
    replace hw := hw hv4 ehv4
    refine r_aload_n C dX7_begin_25 0 rfl ?_
    refine r_iconst (v := 0) C dX7_begin_26 (by decide) ?_
    refine r_putI C fp_RX7_46_2 hw.1 rfl dX7_begin_27 ?_
    replace hw := hw.2
    refine r_toph fun hv5 ehv5 => ?_
    replace hw := hw hv5 ehv5
    refine r_aload_n C dX7_begin_30 0 rfl ?_
    refine r_iconst (v := 0) C dX7_begin_31 (by decide) ?_
    refine r_putI C fp_RX7_49_2 hw.1 rfl dX7_begin_32 ?_
    replace hw := hw.2
    refine r_toph fun hv6 ehv6 => ?_
    replace hw := hw hv6 ehv6
    refine r_aload_n C dX7_begin_35 0 rfl ?_
    refine r_iconst (v := 0) C dX7_begin_36 (by decide) ?_
    refine r_putI C fp_RX7_52_2 hw.1 rfl dX7_begin_37 ?_
    replace hw := hw.2
    refine r_toph fun hv7 ehv7 => ?_
    replace hw := hw hv7 ehv7
    exact r_vret C hr dX7_begin_40 hw
  · refine r_aload_n C dX7_begin_0 0 rfl ?_
    refine r_aload_n C dX7_begin_1 1 rfl ?_
    refine r_putP C fp_RX7_15_3 hw.1 (fun _ _ _ => rfl) dX7_begin_2 ?_
    replace hw := hw.2
    refine r_toph fun hv1 ehv1 => ?_
    replace hw := hw hv1 ehv1
    refine r_aload_n C dX7_begin_5 0 rfl ?_
    refine r_iload_n C dX7_begin_6 2 rfl ?_
    refine r_aload_n C dX7_begin_7 1 rfl ?_
    refine r_alen C hw.1 dX7_begin_8 ?_
    replace hw := hw.2
    refine r_mmin C (gm3 (List.mem_of_getElem? (i := 121) rfl) rfl) (gm3 (List.mem_of_getElem? (i := 122) rfl) rfl) (gm1 (List.mem_of_getElem? (i := 19) rfl) rfl) (gm3 (List.mem_of_getElem? (i := 123) rfl) rfl) ⟨by decide, Nat.le_of_ble_eq_true rfl⟩ dX7_begin_9 ?_
    refine r_putI C fp_RX7_37_3 hw.1 rfl dX7_begin_12 ?_
    replace hw := hw.2
    refine r_toph fun hv2 ehv2 => ?_
    replace hw := hw hv2 ehv2
    refine r_aload_n C dX7_begin_15 0 rfl ?_
    refine r_iload_n C dX7_begin_16 3 rfl ?_
    refine r_putI C fp_RX7_40_3 hw.1 rfl dX7_begin_17 ?_
    replace hw := hw.2
    refine r_toph fun hv3 ehv3 => ?_
    replace hw := hw hv3 ehv3
    refine r_aload_n C dX7_begin_20 0 rfl ?_
    refine r_iconst (v := 0) C dX7_begin_21 (by decide) ?_
    refine r_putI C fp_RX7_43_3 hw.1 rfl dX7_begin_22 ?_
    replace hw := hw.2
    refine r_toph fun hv4 ehv4 => ?_
    replace hw := hw hv4 ehv4
    refine r_aload_n C dX7_begin_25 0 rfl ?_
    refine r_iconst (v := 0) C dX7_begin_26 (by decide) ?_
    refine r_putI C fp_RX7_46_3 hw.1 rfl dX7_begin_27 ?_
    replace hw := hw.2
    refine r_toph fun hv5 ehv5 => ?_
    replace hw := hw hv5 ehv5
    refine r_aload_n C dX7_begin_30 0 rfl ?_
    refine r_iconst (v := 0) C dX7_begin_31 (by decide) ?_
    refine r_putI C fp_RX7_49_3 hw.1 rfl dX7_begin_32 ?_
    replace hw := hw.2
    refine r_toph fun hv6 ehv6 => ?_
    replace hw := hw hv6 ehv6
    refine r_aload_n C dX7_begin_35 0 rfl ?_
    refine r_iconst (v := 0) C dX7_begin_36 (by decide) ?_
    refine r_putI C fp_RX7_52_3 hw.1 rfl dX7_begin_37 ?_
    replace hw := hw.2
    refine r_toph fun hv7 ehv7 => ?_
    replace hw := hw hv7 ehv7
    exact r_vret C hr dX7_begin_40 hw
theorem dX7_readRun_0 : decode cX7_readRun 0 = .ok (.iconst 0, 1) := by decide +kernel
theorem dX7_readRun_1 : decode cX7_readRun 1 = .ok (.istore_n 1, 1) := by decide +kernel
theorem dX7_readRun_2 : decode cX7_readRun 2 = .ok (.iconst 0, 1) := by decide +kernel
theorem dX7_readRun_3 : decode cX7_readRun 3 = .ok (.istore_n 2, 1) := by decide +kernel
theorem dX7_readRun_4 : decode cX7_readRun 4 = .ok (.aload_n 0, 1) := by decide +kernel
theorem dX7_readRun_5 : decode cX7_readRun 5 = .ok (.iconst 0, 1) := by decide +kernel
theorem dX7_readRun_6 : decode cX7_readRun 6 = .ok (.putfield 67, 3) := by decide +kernel
theorem dX7_readRun_9 : decode cX7_readRun 9 = .ok (.aload_n 0, 1) := by decide +kernel
theorem dX7_readRun_10 : decode cX7_readRun 10 = .ok (.getfield 43, 3) := by decide +kernel
theorem dX7_readRun_13 : decode cX7_readRun 13 = .ok (.aload_n 0, 1) := by decide +kernel
theorem dX7_readRun_14 : decode cX7_readRun 14 = .ok (.getfield 37, 3) := by decide +kernel
theorem dX7_readRun_17 : decode cX7_readRun 17 = .ok (.if_icmp .ge 92, 3) := by decide +kernel
theorem dX7_readRun_20 : decode cX7_readRun 20 = .ok (.aload_n 0, 1) := by decide +kernel
theorem dX7_readRun_21 : decode cX7_readRun 21 = .ok (.getfield 15, 3) := by decide +kernel
theorem dX7_readRun_24 : decode cX7_readRun 24 = .ok (.aload_n 0, 1) := by decide +kernel
theorem dX7_readRun_25 : decode cX7_readRun 25 = .ok (.getfield 43, 3) := by decide +kernel
theorem dX7_readRun_28 : decode cX7_readRun 28 = .ok (.baload, 1) := by decide +kernel
theorem dX7_readRun_29 : decode cX7_readRun 29 = .ok (.istore_n 3, 1) := by decide +kernel
theorem dX7_readRun_30 : decode cX7_readRun 30 = .ok (.iload_n 3, 1) := by decide +kernel
theorem dX7_readRun_31 : decode cX7_readRun 31 = .ok (.bipush 97, 2) := by decide +kernel
theorem dX7_readRun_33 : decode cX7_readRun 33 = .ok (.if_icmp .lt 32, 3) := by decide +kernel
theorem dX7_readRun_36 : decode cX7_readRun 36 = .ok (.iload_n 3, 1) := by decide +kernel
theorem dX7_readRun_37 : decode cX7_readRun 37 = .ok (.bipush 122, 2) := by decide +kernel
theorem dX7_readRun_39 : decode cX7_readRun 39 = .ok (.if_icmp .gt 26, 3) := by decide +kernel
theorem dX7_readRun_42 : decode cX7_readRun 42 = .ok (.iinc 1 1, 3) := by decide +kernel
theorem dX7_readRun_45 : decode cX7_readRun 45 = .ok (.aload_n 0, 1) := by decide +kernel
theorem dX7_readRun_46 : decode cX7_readRun 46 = .ok (.aload_n 0, 1) := by decide +kernel
theorem dX7_readRun_47 : decode cX7_readRun 47 = .ok (.getfield 67, 3) := by decide +kernel
theorem dX7_readRun_50 : decode cX7_readRun 50 = .ok (.iconst 5, 1) := by decide +kernel
theorem dX7_readRun_51 : decode cX7_readRun 51 = .ok (.ishl, 1) := by decide +kernel
theorem dX7_readRun_52 : decode cX7_readRun 52 = .ok (.iload_n 3, 1) := by decide +kernel
theorem dX7_readRun_53 : decode cX7_readRun 53 = .ok (.bipush 97, 2) := by decide +kernel
theorem dX7_readRun_55 : decode cX7_readRun 55 = .ok (.isub, 1) := by decide +kernel
theorem dX7_readRun_56 : decode cX7_readRun 56 = .ok (.iconst 1, 1) := by decide +kernel
theorem dX7_readRun_57 : decode cX7_readRun 57 = .ok (.iadd, 1) := by decide +kernel
theorem dX7_readRun_58 : decode cX7_readRun 58 = .ok (.ior, 1) := by decide +kernel
theorem dX7_readRun_59 : decode cX7_readRun 59 = .ok (.putfield 67, 3) := by decide +kernel
theorem dX7_readRun_62 : decode cX7_readRun 62 = .ok (.goto 34, 3) := by decide +kernel
theorem dX7_readRun_65 : decode cX7_readRun 65 = .ok (.iload_n 3, 1) := by decide +kernel
theorem dX7_readRun_66 : decode cX7_readRun 66 = .ok (.bipush 48, 2) := by decide +kernel
theorem dX7_readRun_68 : decode cX7_readRun 68 = .ok (.if_icmp .lt 41, 3) := by decide +kernel
theorem dX7_readRun_71 : decode cX7_readRun 71 = .ok (.iload_n 3, 1) := by decide +kernel
theorem dX7_readRun_72 : decode cX7_readRun 72 = .ok (.bipush 57, 2) := by decide +kernel
theorem dX7_readRun_74 : decode cX7_readRun 74 = .ok (.if_icmp .gt 35, 3) := by decide +kernel
theorem dX7_readRun_77 : decode cX7_readRun 77 = .ok (.iinc 2 1, 3) := by decide +kernel
theorem dX7_readRun_80 : decode cX7_readRun 80 = .ok (.aload_n 0, 1) := by decide +kernel
theorem dX7_readRun_81 : decode cX7_readRun 81 = .ok (.aload_n 0, 1) := by decide +kernel
theorem dX7_readRun_82 : decode cX7_readRun 82 = .ok (.getfield 67, 3) := by decide +kernel
theorem dX7_readRun_85 : decode cX7_readRun 85 = .ok (.bipush 10, 2) := by decide +kernel
theorem dX7_readRun_87 : decode cX7_readRun 87 = .ok (.imul, 1) := by decide +kernel
theorem dX7_readRun_88 : decode cX7_readRun 88 = .ok (.iload_n 3, 1) := by decide +kernel
theorem dX7_readRun_89 : decode cX7_readRun 89 = .ok (.iadd, 1) := by decide +kernel
theorem dX7_readRun_90 : decode cX7_readRun 90 = .ok (.bipush 48, 2) := by decide +kernel
theorem dX7_readRun_92 : decode cX7_readRun 92 = .ok (.isub, 1) := by decide +kernel
theorem dX7_readRun_93 : decode cX7_readRun 93 = .ok (.putfield 67, 3) := by decide +kernel
theorem dX7_readRun_96 : decode cX7_readRun 96 = .ok (.aload_n 0, 1) := by decide +kernel
theorem dX7_readRun_97 : decode cX7_readRun 97 = .ok (.dup, 1) := by decide +kernel
theorem dX7_readRun_98 : decode cX7_readRun 98 = .ok (.getfield 43, 3) := by decide +kernel
theorem dX7_readRun_101 : decode cX7_readRun 101 = .ok (.iconst 1, 1) := by decide +kernel
theorem dX7_readRun_102 : decode cX7_readRun 102 = .ok (.iadd, 1) := by decide +kernel
theorem dX7_readRun_103 : decode cX7_readRun 103 = .ok (.putfield 43, 3) := by decide +kernel
theorem dX7_readRun_106 : decode cX7_readRun 106 = .ok (.goto (-97), 3) := by decide +kernel
theorem dX7_readRun_109 : decode cX7_readRun 109 = .ok (.aload_n 0, 1) := by decide +kernel
theorem dX7_readRun_110 : decode cX7_readRun 110 = .ok (.iload_n 1, 1) := by decide +kernel
theorem dX7_readRun_111 : decode cX7_readRun 111 = .ok (.iload_n 2, 1) := by decide +kernel
theorem dX7_readRun_112 : decode cX7_readRun 112 = .ok (.iadd, 1) := by decide +kernel
theorem dX7_readRun_113 : decode cX7_readRun 113 = .ok (.putfield 58, 3) := by decide +kernel
theorem dX7_readRun_116 : decode cX7_readRun 116 = .ok (.aload_n 0, 1) := by decide +kernel
theorem dX7_readRun_117 : decode cX7_readRun 117 = .ok (.iconst 0, 1) := by decide +kernel
theorem dX7_readRun_118 : decode cX7_readRun 118 = .ok (.putfield 61, 3) := by decide +kernel
theorem dX7_readRun_121 : decode cX7_readRun 121 = .ok (.iload_n 2, 1) := by decide +kernel
theorem dX7_readRun_122 : decode cX7_readRun 122 = .ok (.ifCond .ne 22, 3) := by decide +kernel
theorem dX7_readRun_125 : decode cX7_readRun 125 = .ok (.iload_n 1, 1) := by decide +kernel
theorem dX7_readRun_126 : decode cX7_readRun 126 = .ok (.iconst 1, 1) := by decide +kernel
theorem dX7_readRun_127 : decode cX7_readRun 127 = .ok (.if_icmp .lt 17, 3) := by decide +kernel
theorem dX7_readRun_130 : decode cX7_readRun 130 = .ok (.iload_n 1, 1) := by decide +kernel
theorem dX7_readRun_131 : decode cX7_readRun 131 = .ok (.bipush 6, 2) := by decide +kernel
theorem dX7_readRun_133 : decode cX7_readRun 133 = .ok (.if_icmp .gt 11, 3) := by decide +kernel
theorem dX7_readRun_136 : decode cX7_readRun 136 = .ok (.aload_n 0, 1) := by decide +kernel
theorem dX7_readRun_137 : decode cX7_readRun 137 = .ok (.iconst 1, 1) := by decide +kernel
theorem dX7_readRun_138 : decode cX7_readRun 138 = .ok (.putfield 61, 3) := by decide +kernel
theorem dX7_readRun_141 : decode cX7_readRun 141 = .ok (.goto 23, 3) := by decide +kernel
theorem dX7_readRun_144 : decode cX7_readRun 144 = .ok (.iload_n 1, 1) := by decide +kernel
theorem dX7_readRun_145 : decode cX7_readRun 145 = .ok (.ifCond .ne 19, 3) := by decide +kernel
theorem dX7_readRun_148 : decode cX7_readRun 148 = .ok (.iload_n 2, 1) := by decide +kernel
theorem dX7_readRun_149 : decode cX7_readRun 149 = .ok (.iconst 1, 1) := by decide +kernel
theorem dX7_readRun_150 : decode cX7_readRun 150 = .ok (.if_icmp .lt 14, 3) := by decide +kernel
theorem dX7_readRun_153 : decode cX7_readRun 153 = .ok (.iload_n 2, 1) := by decide +kernel
theorem dX7_readRun_154 : decode cX7_readRun 154 = .ok (.bipush 8, 2) := by decide +kernel
theorem dX7_readRun_156 : decode cX7_readRun 156 = .ok (.if_icmp .gt 8, 3) := by decide +kernel
theorem dX7_readRun_159 : decode cX7_readRun 159 = .ok (.aload_n 0, 1) := by decide +kernel
theorem dX7_readRun_160 : decode cX7_readRun 160 = .ok (.iconst 2, 1) := by decide +kernel
theorem dX7_readRun_161 : decode cX7_readRun 161 = .ok (.putfield 61, 3) := by decide +kernel
theorem dX7_readRun_164 : decode cX7_readRun 164 = .ok (.return_, 1) := by decide +kernel
def wb_X7_readRun_144 (ci : Nat)  (h : AH) (al0 : Nat) (xl1 : Int32) (xl2 : Int32)  (post : AH → Prop) : Prop := (¬ xl1 = 0 → (post h)) ∧ (xl1 = 0 → ((xl2 < 1 → (post h)) ∧ (¬ xl2 < 1 → ((8 < xl2 → (post h)) ∧ (¬ 8 < xl2 → ((ob h al0 ci) ∧ (∀ hv1 : AH, hv1 = hI h al0 6 2 → (post hv1))))))))
set_option maxRecDepth 100000 in
theorem tb_X7_readRun_144 {ci : Nat} (hci : ci = 2 ∨ ci = 3) {G : GG} {p : Program} {l : Launch} {e : Env} {R : Room} {s : State} {m : MethodId} {args : Array Value} {below : List Frame} {meth : Method} {c : Code} {n0 s0 : Nat} {post : AH → Prop} (C : Cx G p R s m args meth c 4 cX7_readRun RX7 n0 s0 0 0) (hr : meth.sig.returnType = none)   {h : AH} {al0 : Nat} {xl1 : Int32} {xl2 : Int32}  (hw : wb_X7_readRun_144 ci  h al0 xl1 xl2 post) : AW G p l e R s m args below meth c 4 (QM G (pV post) args s below n0 s0) 144 [(0, .ref (G.1 + al0)), (1, .int xl1), (2, .int xl2)] [] h := by
  unfold wb_X7_readRun_144 at hw
  rcases hci with rfl | rfl
  · refine r_iload_n C dX7_readRun_144 1 rfl ?_
    refine r_if_ne C dX7_readRun_145 164 (by decide) (fun hc => ?_) (fun hc => ?_)
    · replace hw := hw.1 hc
      exact r_vret C hr dX7_readRun_164 hw
    · replace hw := hw.2 hc
      refine r_iload_n C dX7_readRun_148 2 rfl ?_
      refine r_iconst (v := 1) C dX7_readRun_149 (by decide) ?_
      refine r_icmp_lt C dX7_readRun_150 164 (by decide) (fun hc => ?_) (fun hc => ?_)
      · replace hw := hw.1 hc
        exact r_vret C hr dX7_readRun_164 hw
      · replace hw := hw.2 hc
        refine r_iload_n C dX7_readRun_153 2 rfl ?_
        refine r_bipush (v := 8) C dX7_readRun_154 (by decide) ?_
        refine r_icmp_gt C dX7_readRun_156 164 (by decide) (fun hc => ?_) (fun hc => ?_)
        · replace hw := hw.1 hc
          exact r_vret C hr dX7_readRun_164 hw
        · replace hw := hw.2 hc
          refine r_aload_n C dX7_readRun_159 0 rfl ?_
          refine r_iconst (v := 2) C dX7_readRun_160 (by decide) ?_
          refine r_putI C fp_RX7_61_2 hw.1 rfl dX7_readRun_161 ?_
          replace hw := hw.2
          refine r_toph fun hv1 ehv1 => ?_
          replace hw := hw hv1 ehv1
          exact r_vret C hr dX7_readRun_164 hw
  · refine r_iload_n C dX7_readRun_144 1 rfl ?_
    refine r_if_ne C dX7_readRun_145 164 (by decide) (fun hc => ?_) (fun hc => ?_)
    · replace hw := hw.1 hc
      exact r_vret C hr dX7_readRun_164 hw
    · replace hw := hw.2 hc
      refine r_iload_n C dX7_readRun_148 2 rfl ?_
      refine r_iconst (v := 1) C dX7_readRun_149 (by decide) ?_
      refine r_icmp_lt C dX7_readRun_150 164 (by decide) (fun hc => ?_) (fun hc => ?_)
      · replace hw := hw.1 hc
        exact r_vret C hr dX7_readRun_164 hw
      · replace hw := hw.2 hc
        refine r_iload_n C dX7_readRun_153 2 rfl ?_
        refine r_bipush (v := 8) C dX7_readRun_154 (by decide) ?_
        refine r_icmp_gt C dX7_readRun_156 164 (by decide) (fun hc => ?_) (fun hc => ?_)
        · replace hw := hw.1 hc
          exact r_vret C hr dX7_readRun_164 hw
        · replace hw := hw.2 hc
          refine r_aload_n C dX7_readRun_159 0 rfl ?_
          refine r_iconst (v := 2) C dX7_readRun_160 (by decide) ?_
          refine r_putI C fp_RX7_61_3 hw.1 rfl dX7_readRun_161 ?_
          replace hw := hw.2
          refine r_toph fun hv1 ehv1 => ?_
          replace hw := hw hv1 ehv1
          exact r_vret C hr dX7_readRun_164 hw
def wb_X7_readRun_109 (ci : Nat)  (h : AH) (al0 : Nat) (xl1 : Int32) (xl2 : Int32)  (post : AH → Prop) : Prop := (ob h al0 ci) ∧ (∀ hv1 : AH, hv1 = hI h al0 8 (xl1 + xl2) → ((ob hv1 al0 ci) ∧ (∀ hv2 : AH, hv2 = hI hv1 al0 6 0 → ((¬ xl2 = 0 → (wb_X7_readRun_144 ci  hv2 al0 xl1 xl2 post)) ∧ (xl2 = 0 → ((xl1 < 1 → (wb_X7_readRun_144 ci  hv2 al0 xl1 xl2 post)) ∧ (¬ xl1 < 1 → ((6 < xl1 → (wb_X7_readRun_144 ci  hv2 al0 xl1 xl2 post)) ∧ (¬ 6 < xl1 → ((ob hv2 al0 ci) ∧ (∀ hv3 : AH, hv3 = hI hv2 al0 6 1 → (post hv3))))))))))))
set_option maxRecDepth 100000 in
theorem tb_X7_readRun_109 {ci : Nat} (hci : ci = 2 ∨ ci = 3) {G : GG} {p : Program} {l : Launch} {e : Env} {R : Room} {s : State} {m : MethodId} {args : Array Value} {below : List Frame} {meth : Method} {c : Code} {n0 s0 : Nat} {post : AH → Prop} (C : Cx G p R s m args meth c 4 cX7_readRun RX7 n0 s0 0 0) (hr : meth.sig.returnType = none)   {h : AH} {al0 : Nat} {xl1 : Int32} {xl2 : Int32}  (hw : wb_X7_readRun_109 ci  h al0 xl1 xl2 post) : AW G p l e R s m args below meth c 4 (QM G (pV post) args s below n0 s0) 109 [(0, .ref (G.1 + al0)), (1, .int xl1), (2, .int xl2)] [] h := by
  unfold wb_X7_readRun_109 at hw
  rcases hci with rfl | rfl
  · refine r_aload_n C dX7_readRun_109 0 rfl ?_
    refine r_iload_n C dX7_readRun_110 1 rfl ?_
    refine r_iload_n C dX7_readRun_111 2 rfl ?_
    refine r_iadd C dX7_readRun_112 ?_
    refine r_putI C fp_RX7_58_2 hw.1 rfl dX7_readRun_113 ?_
    replace hw := hw.2
    refine r_toph fun hv1 ehv1 => ?_
    replace hw := hw hv1 ehv1
    refine r_aload_n C dX7_readRun_116 0 rfl ?_
    refine r_iconst (v := 0) C dX7_readRun_117 (by decide) ?_
    refine r_putI C fp_RX7_61_2 hw.1 rfl dX7_readRun_118 ?_
    replace hw := hw.2
    refine r_toph fun hv2 ehv2 => ?_
    replace hw := hw hv2 ehv2
    refine r_iload_n C dX7_readRun_121 2 rfl ?_
    refine r_if_ne C dX7_readRun_122 144 (by decide) (fun hc => ?_) (fun hc => ?_)
    · replace hw := hw.1 hc
      refine r_sub [0, 1, 2] rfl ?_
      exact tb_X7_readRun_144 (by decide) C hr  hw
    · replace hw := hw.2 hc
      refine r_iload_n C dX7_readRun_125 1 rfl ?_
      refine r_iconst (v := 1) C dX7_readRun_126 (by decide) ?_
      refine r_icmp_lt C dX7_readRun_127 144 (by decide) (fun hc => ?_) (fun hc => ?_)
      · replace hw := hw.1 hc
        refine r_sub [0, 1, 2] rfl ?_
        exact tb_X7_readRun_144 (by decide) C hr  hw
      · replace hw := hw.2 hc
        refine r_iload_n C dX7_readRun_130 1 rfl ?_
        refine r_bipush (v := 6) C dX7_readRun_131 (by decide) ?_
        refine r_icmp_gt C dX7_readRun_133 144 (by decide) (fun hc => ?_) (fun hc => ?_)
        · replace hw := hw.1 hc
          refine r_sub [0, 1, 2] rfl ?_
          exact tb_X7_readRun_144 (by decide) C hr  hw
        · replace hw := hw.2 hc
          refine r_aload_n C dX7_readRun_136 0 rfl ?_
          refine r_iconst (v := 1) C dX7_readRun_137 (by decide) ?_
          refine r_putI C fp_RX7_61_2 hw.1 rfl dX7_readRun_138 ?_
          replace hw := hw.2
          refine r_toph fun hv3 ehv3 => ?_
          replace hw := hw hv3 ehv3
          refine r_goto C dX7_readRun_141 164 (by decide) ?_
          exact r_vret C hr dX7_readRun_164 hw
  · refine r_aload_n C dX7_readRun_109 0 rfl ?_
    refine r_iload_n C dX7_readRun_110 1 rfl ?_
    refine r_iload_n C dX7_readRun_111 2 rfl ?_
    refine r_iadd C dX7_readRun_112 ?_
    refine r_putI C fp_RX7_58_3 hw.1 rfl dX7_readRun_113 ?_
    replace hw := hw.2
    refine r_toph fun hv1 ehv1 => ?_
    replace hw := hw hv1 ehv1
    refine r_aload_n C dX7_readRun_116 0 rfl ?_
    refine r_iconst (v := 0) C dX7_readRun_117 (by decide) ?_
    refine r_putI C fp_RX7_61_3 hw.1 rfl dX7_readRun_118 ?_
    replace hw := hw.2
    refine r_toph fun hv2 ehv2 => ?_
    replace hw := hw hv2 ehv2
    refine r_iload_n C dX7_readRun_121 2 rfl ?_
    refine r_if_ne C dX7_readRun_122 144 (by decide) (fun hc => ?_) (fun hc => ?_)
    · replace hw := hw.1 hc
      refine r_sub [0, 1, 2] rfl ?_
      exact tb_X7_readRun_144 (by decide) C hr  hw
    · replace hw := hw.2 hc
      refine r_iload_n C dX7_readRun_125 1 rfl ?_
      refine r_iconst (v := 1) C dX7_readRun_126 (by decide) ?_
      refine r_icmp_lt C dX7_readRun_127 144 (by decide) (fun hc => ?_) (fun hc => ?_)
      · replace hw := hw.1 hc
        refine r_sub [0, 1, 2] rfl ?_
        exact tb_X7_readRun_144 (by decide) C hr  hw
      · replace hw := hw.2 hc
        refine r_iload_n C dX7_readRun_130 1 rfl ?_
        refine r_bipush (v := 6) C dX7_readRun_131 (by decide) ?_
        refine r_icmp_gt C dX7_readRun_133 144 (by decide) (fun hc => ?_) (fun hc => ?_)
        · replace hw := hw.1 hc
          refine r_sub [0, 1, 2] rfl ?_
          exact tb_X7_readRun_144 (by decide) C hr  hw
        · replace hw := hw.2 hc
          refine r_aload_n C dX7_readRun_136 0 rfl ?_
          refine r_iconst (v := 1) C dX7_readRun_137 (by decide) ?_
          refine r_putI C fp_RX7_61_3 hw.1 rfl dX7_readRun_138 ?_
          replace hw := hw.2
          refine r_toph fun hv3 ehv3 => ?_
          replace hw := hw hv3 ehv3
          refine r_goto C dX7_readRun_141 164 (by decide) ?_
          exact r_vret C hr dX7_readRun_164 hw
def wb_X7_readRun_96 (ci : Nat) (K9 : AH → Nat → Int32 → Int32 → Prop) (h : AH) (al0 : Nat) (xl1 : Int32) (xl2 : Int32)  (post : AH → Prop) : Prop := (ob h al0 ci) ∧ ((ob h al0 ci) ∧ (∀ hv1 : AH, hv1 = hI h al0 4 ((aI h al0 4) + (1 : Int32)) → (K9 hv1 al0 xl1 xl2)))
set_option maxRecDepth 100000 in
theorem tb_X7_readRun_96 {ci : Nat} (hci : ci = 2 ∨ ci = 3) {G : GG} {p : Program} {l : Launch} {e : Env} {R : Room} {s : State} {m : MethodId} {args : Array Value} {below : List Frame} {meth : Method} {c : Code} {n0 s0 : Nat} {post : AH → Prop} (C : Cx G p R s m args meth c 4 cX7_readRun RX7 n0 s0 0 0) (hr : meth.sig.returnType = none) {K9 : AH → Nat → Int32 → Int32 → Prop} (hK9 : ∀ (h : AH) (al0 : Nat) (xl1 : Int32) (xl2 : Int32), K9 h al0 xl1 xl2 → AW G p l e R s m args below meth c 4 (QM G (pV post) args s below n0 s0) 9 [(0, .ref (G.1 + al0)), (1, .int xl1), (2, .int xl2)] [] h) {h : AH} {al0 : Nat} {xl1 : Int32} {xl2 : Int32}  (hw : wb_X7_readRun_96 ci K9 h al0 xl1 xl2 post) : AW G p l e R s m args below meth c 4 (QM G (pV post) args s below n0 s0) 96 [(0, .ref (G.1 + al0)), (1, .int xl1), (2, .int xl2)] [] h := by
  unfold wb_X7_readRun_96 at hw
  rcases hci with rfl | rfl
  · refine r_aload_n C dX7_readRun_96 0 rfl ?_
    refine r_dup C dX7_readRun_97 rfl ?_
    refine r_getI C fl_RX7_43_2 hw.1 (fun _ _ _ => rfl) dX7_readRun_98 ?_
    replace hw := hw.2
    refine r_iconst (v := 1) C dX7_readRun_101 (by decide) ?_
    refine r_iadd C dX7_readRun_102 ?_
    refine r_putI C fp_RX7_43_2 hw.1 rfl dX7_readRun_103 ?_
    replace hw := hw.2
    refine r_toph fun hv1 ehv1 => ?_
    replace hw := hw hv1 ehv1
    refine r_goto C dX7_readRun_106 9 (by decide) ?_
    refine r_sub [0, 1, 2] rfl ?_
    exact hK9 _ _ _ _ hw
  · refine r_aload_n C dX7_readRun_96 0 rfl ?_
    refine r_dup C dX7_readRun_97 rfl ?_
    refine r_getI C fl_RX7_43_3 hw.1 (fun _ _ _ => rfl) dX7_readRun_98 ?_
    replace hw := hw.2
    refine r_iconst (v := 1) C dX7_readRun_101 (by decide) ?_
    refine r_iadd C dX7_readRun_102 ?_
    refine r_putI C fp_RX7_43_3 hw.1 rfl dX7_readRun_103 ?_
    replace hw := hw.2
    refine r_toph fun hv1 ehv1 => ?_
    replace hw := hw hv1 ehv1
    refine r_goto C dX7_readRun_106 9 (by decide) ?_
    refine r_sub [0, 1, 2] rfl ?_
    exact hK9 _ _ _ _ hw
def wb_X7_readRun_65 (ci : Nat) (K9 : AH → Nat → Int32 → Int32 → Prop) (h : AH) (al0 : Nat) (xl1 : Int32) (xl2 : Int32) (xl3 : Int32)  (post : AH → Prop) : Prop := (xl3 < 48 → (wb_X7_readRun_109 ci  h al0 xl1 xl2 post)) ∧ (¬ xl3 < 48 → ((57 < xl3 → (wb_X7_readRun_109 ci  h al0 xl1 xl2 post)) ∧ (¬ 57 < xl3 → (∀ iv1 : Int32, iv1 = xl2 + 1 → ((ob h al0 ci) ∧ ((ob h al0 ci) ∧ (∀ hv2 : AH, hv2 = hI h al0 7 ((((aI h al0 7) * (10 : Int32)) + xl3) - (48 : Int32)) → (wb_X7_readRun_96 ci K9 hv2 al0 xl1 iv1 post))))))))
set_option maxRecDepth 100000 in
theorem tb_X7_readRun_65 {ci : Nat} (hci : ci = 2 ∨ ci = 3) {G : GG} {p : Program} {l : Launch} {e : Env} {R : Room} {s : State} {m : MethodId} {args : Array Value} {below : List Frame} {meth : Method} {c : Code} {n0 s0 : Nat} {post : AH → Prop} (C : Cx G p R s m args meth c 4 cX7_readRun RX7 n0 s0 0 0) (hr : meth.sig.returnType = none) {K9 : AH → Nat → Int32 → Int32 → Prop} (hK9 : ∀ (h : AH) (al0 : Nat) (xl1 : Int32) (xl2 : Int32), K9 h al0 xl1 xl2 → AW G p l e R s m args below meth c 4 (QM G (pV post) args s below n0 s0) 9 [(0, .ref (G.1 + al0)), (1, .int xl1), (2, .int xl2)] [] h) {h : AH} {al0 : Nat} {xl1 : Int32} {xl2 : Int32} {xl3 : Int32}  (hw : wb_X7_readRun_65 ci K9 h al0 xl1 xl2 xl3 post) : AW G p l e R s m args below meth c 4 (QM G (pV post) args s below n0 s0) 65 [(0, .ref (G.1 + al0)), (1, .int xl1), (2, .int xl2), (3, .int xl3)] [] h := by
  unfold wb_X7_readRun_65 at hw
  rcases hci with rfl | rfl
  · refine r_iload_n C dX7_readRun_65 3 rfl ?_
    refine r_bipush (v := 48) C dX7_readRun_66 (by decide) ?_
    refine r_icmp_lt C dX7_readRun_68 109 (by decide) (fun hc => ?_) (fun hc => ?_)
    · replace hw := hw.1 hc
      refine r_sub [0, 1, 2] rfl ?_
      exact tb_X7_readRun_109 (by decide) C hr  hw
    · replace hw := hw.2 hc
      refine r_iload_n C dX7_readRun_71 3 rfl ?_
      refine r_bipush (v := 57) C dX7_readRun_72 (by decide) ?_
      refine r_icmp_gt C dX7_readRun_74 109 (by decide) (fun hc => ?_) (fun hc => ?_)
      · replace hw := hw.1 hc
        refine r_sub [0, 1, 2] rfl ?_
        exact tb_X7_readRun_109 (by decide) C hr  hw
      · replace hw := hw.2 hc
        obtain ⟨iv1, eiv1⟩ : ∃ q : Int32, q = xl2 + 1 := ⟨_, rfl⟩
        replace hw := hw iv1 eiv1
        refine r_iinc C dX7_readRun_77 2 rfl (by rw [eiv1]; rfl) [(2, .int iv1), (0, .ref (G.1 + al0)), (1, .int xl1), (3, .int xl3)] (by decide) rfl ?_
        refine r_aload_n C dX7_readRun_80 1 rfl ?_
        refine r_aload_n C dX7_readRun_81 1 rfl ?_
        refine r_getI C fl_RX7_67_2 hw.1 (fun _ _ _ => rfl) dX7_readRun_82 ?_
        replace hw := hw.2
        refine r_bipush (v := 10) C dX7_readRun_85 (by decide) ?_
        refine r_imul C dX7_readRun_87 ?_
        refine r_iload_n C dX7_readRun_88 3 rfl ?_
        refine r_iadd C dX7_readRun_89 ?_
        refine r_bipush (v := 48) C dX7_readRun_90 (by decide) ?_
        refine r_isub C dX7_readRun_92 ?_
        refine r_putI C fp_RX7_67_2 hw.1 rfl dX7_readRun_93 ?_
        replace hw := hw.2
        refine r_toph fun hv2 ehv2 => ?_
        replace hw := hw hv2 ehv2
        refine r_sub [1, 2, 0] rfl ?_
        exact tb_X7_readRun_96 (by decide) C hr hK9 hw
  · refine r_iload_n C dX7_readRun_65 3 rfl ?_
    refine r_bipush (v := 48) C dX7_readRun_66 (by decide) ?_
    refine r_icmp_lt C dX7_readRun_68 109 (by decide) (fun hc => ?_) (fun hc => ?_)
    · replace hw := hw.1 hc
      refine r_sub [0, 1, 2] rfl ?_
      exact tb_X7_readRun_109 (by decide) C hr  hw
    · replace hw := hw.2 hc
      refine r_iload_n C dX7_readRun_71 3 rfl ?_
      refine r_bipush (v := 57) C dX7_readRun_72 (by decide) ?_
      refine r_icmp_gt C dX7_readRun_74 109 (by decide) (fun hc => ?_) (fun hc => ?_)
      · replace hw := hw.1 hc
        refine r_sub [0, 1, 2] rfl ?_
        exact tb_X7_readRun_109 (by decide) C hr  hw
      · replace hw := hw.2 hc
        obtain ⟨iv1, eiv1⟩ : ∃ q : Int32, q = xl2 + 1 := ⟨_, rfl⟩
        replace hw := hw iv1 eiv1
        refine r_iinc C dX7_readRun_77 2 rfl (by rw [eiv1]; rfl) [(2, .int iv1), (0, .ref (G.1 + al0)), (1, .int xl1), (3, .int xl3)] (by decide) rfl ?_
        refine r_aload_n C dX7_readRun_80 1 rfl ?_
        refine r_aload_n C dX7_readRun_81 1 rfl ?_
        refine r_getI C fl_RX7_67_3 hw.1 (fun _ _ _ => rfl) dX7_readRun_82 ?_
        replace hw := hw.2
        refine r_bipush (v := 10) C dX7_readRun_85 (by decide) ?_
        refine r_imul C dX7_readRun_87 ?_
        refine r_iload_n C dX7_readRun_88 3 rfl ?_
        refine r_iadd C dX7_readRun_89 ?_
        refine r_bipush (v := 48) C dX7_readRun_90 (by decide) ?_
        refine r_isub C dX7_readRun_92 ?_
        refine r_putI C fp_RX7_67_3 hw.1 rfl dX7_readRun_93 ?_
        replace hw := hw.2
        refine r_toph fun hv2 ehv2 => ?_
        replace hw := hw hv2 ehv2
        refine r_sub [1, 2, 0] rfl ?_
        exact tb_X7_readRun_96 (by decide) C hr hK9 hw
def wb_X7_readRun_9 (ci : Nat) (K9 : AH → Nat → Int32 → Int32 → Prop) (h : AH) (al0 : Nat) (xl1 : Int32) (xl2 : Int32)  (post : AH → Prop) : Prop := (ob h al0 ci) ∧ ((ob h al0 ci) ∧ (((aI h al0 2) ≤ (aI h al0 4) → (wb_X7_readRun_109 ci  h al0 xl1 xl2 post)) ∧ (¬ (aI h al0 2) ≤ (aI h al0 4) → ((ob h al0 ci) ∧ (∃ rv1, aP h al0 1 = some rv1 ∧ ((ob h al0 ci) ∧ ((ob h rv1 12) ∧ ((vp_in (aI h al0 4) (aL h rv1)) ∧ (∀ iv2 : Int32, iv2 = aI h rv1 (aI h al0 4).toNatClampNeg → ((iv2 < 97 → (wb_X7_readRun_65 ci K9 h al0 xl1 xl2 iv2 post)) ∧ (¬ iv2 < 97 → ((122 < iv2 → (wb_X7_readRun_65 ci K9 h al0 xl1 xl2 iv2 post)) ∧ (¬ 122 < iv2 → (∀ iv3 : Int32, iv3 = xl1 + 1 → ((ob h al0 ci) ∧ ((ob h al0 ci) ∧ (∀ hv4 : AH, hv4 = hI h al0 7 (((aI h al0 7) <<< ((5 : Int32) &&& 31)) ||| ((iv2 - (97 : Int32)) + (1 : Int32))) → (wb_X7_readRun_96 ci K9 hv4 al0 iv3 xl2 post))))))))))))))))))
set_option maxRecDepth 100000 in
theorem tb_X7_readRun_9 {ci : Nat} (hci : ci = 2 ∨ ci = 3) {G : GG} {p : Program} {l : Launch} {e : Env} {R : Room} {s : State} {m : MethodId} {args : Array Value} {below : List Frame} {meth : Method} {c : Code} {n0 s0 : Nat} {post : AH → Prop} (C : Cx G p R s m args meth c 4 cX7_readRun RX7 n0 s0 0 0) (hr : meth.sig.returnType = none) {K9 : AH → Nat → Int32 → Int32 → Prop} (hK9 : ∀ (h : AH) (al0 : Nat) (xl1 : Int32) (xl2 : Int32), K9 h al0 xl1 xl2 → AW G p l e R s m args below meth c 4 (QM G (pV post) args s below n0 s0) 9 [(0, .ref (G.1 + al0)), (1, .int xl1), (2, .int xl2)] [] h) {h : AH} {al0 : Nat} {xl1 : Int32} {xl2 : Int32}  (hw : wb_X7_readRun_9 ci K9 h al0 xl1 xl2 post) : AW G p l e R s m args below meth c 4 (QM G (pV post) args s below n0 s0) 9 [(0, .ref (G.1 + al0)), (1, .int xl1), (2, .int xl2)] [] h := by
  unfold wb_X7_readRun_9 at hw
  rcases hci with rfl | rfl
  · refine r_aload_n C dX7_readRun_9 0 rfl ?_
    refine r_getI C fl_RX7_43_2 hw.1 (fun _ _ _ => rfl) dX7_readRun_10 ?_
    replace hw := hw.2
    refine r_aload_n C dX7_readRun_13 0 rfl ?_
    refine r_getI C fl_RX7_37_2 hw.1 (fun _ _ _ => rfl) dX7_readRun_14 ?_
    replace hw := hw.2
    refine r_icmp_ge C dX7_readRun_17 109 (by decide) (fun hc => ?_) (fun hc => ?_)
    · replace hw := hw.1 hc
      refine r_sub [0, 1, 2] rfl ?_
      exact tb_X7_readRun_109 (by decide) C hr  hw
    · replace hw := hw.2 hc
      refine r_aload_n C dX7_readRun_20 0 rfl ?_
      have hob := hw.1
      obtain ⟨rv1, hp, hw⟩ := hw.2
      refine r_getP C fl_RX7_15_2 hob hp (fun _ _ _ => rfl) dX7_readRun_21 ?_
      refine r_aload_n C dX7_readRun_24 0 rfl ?_
      refine r_getI C fl_RX7_43_2 hw.1 (fun _ _ _ => rfl) dX7_readRun_25 ?_
      replace hw := hw.2
      refine r_baload C hw.1 hw.2.1 dX7_readRun_28 ?_
      replace hw := hw.2.2
      refine r_topi fun iv2 eiv2 => ?_
      replace hw := hw iv2 eiv2
      refine r_istore_n C dX7_readRun_29 [(3, .int iv2), (0, .ref (G.1 + al0)), (1, .int xl1), (2, .int xl2)] (by decide) rfl ?_
      refine r_iload_n C dX7_readRun_30 0 rfl ?_
      refine r_bipush (v := 97) C dX7_readRun_31 (by decide) ?_
      refine r_icmp_lt C dX7_readRun_33 65 (by decide) (fun hc => ?_) (fun hc => ?_)
      · replace hw := hw.1 hc
        refine r_sub [1, 2, 3, 0] rfl ?_
        exact tb_X7_readRun_65 (by decide) C hr hK9 hw
      · replace hw := hw.2 hc
        refine r_iload_n C dX7_readRun_36 0 rfl ?_
        refine r_bipush (v := 122) C dX7_readRun_37 (by decide) ?_
        refine r_icmp_gt C dX7_readRun_39 65 (by decide) (fun hc => ?_) (fun hc => ?_)
        · replace hw := hw.1 hc
          refine r_sub [1, 2, 3, 0] rfl ?_
          exact tb_X7_readRun_65 (by decide) C hr hK9 hw
        · replace hw := hw.2 hc
          obtain ⟨iv3, eiv3⟩ : ∃ q : Int32, q = xl1 + 1 := ⟨_, rfl⟩
          replace hw := hw iv3 eiv3
          refine r_iinc C dX7_readRun_42 2 rfl (by rw [eiv3]; rfl) [(1, .int iv3), (3, .int iv2), (0, .ref (G.1 + al0)), (2, .int xl2)] (by decide) rfl ?_
          refine r_aload_n C dX7_readRun_45 2 rfl ?_
          refine r_aload_n C dX7_readRun_46 2 rfl ?_
          refine r_getI C fl_RX7_67_2 hw.1 (fun _ _ _ => rfl) dX7_readRun_47 ?_
          replace hw := hw.2
          refine r_iconst (v := 5) C dX7_readRun_50 (by decide) ?_
          refine r_ishl C dX7_readRun_51 ?_
          refine r_iload_n C dX7_readRun_52 1 rfl ?_
          refine r_bipush (v := 97) C dX7_readRun_53 (by decide) ?_
          refine r_isub C dX7_readRun_55 ?_
          refine r_iconst (v := 1) C dX7_readRun_56 (by decide) ?_
          refine r_iadd C dX7_readRun_57 ?_
          refine r_ior C dX7_readRun_58 ?_
          refine r_putI C fp_RX7_67_2 hw.1 rfl dX7_readRun_59 ?_
          replace hw := hw.2
          refine r_toph fun hv4 ehv4 => ?_
          replace hw := hw hv4 ehv4
          refine r_goto C dX7_readRun_62 96 (by decide) ?_
          refine r_sub [2, 0, 3] rfl ?_
          exact tb_X7_readRun_96 (by decide) C hr hK9 hw
  · refine r_aload_n C dX7_readRun_9 0 rfl ?_
    refine r_getI C fl_RX7_43_3 hw.1 (fun _ _ _ => rfl) dX7_readRun_10 ?_
    replace hw := hw.2
    refine r_aload_n C dX7_readRun_13 0 rfl ?_
    refine r_getI C fl_RX7_37_3 hw.1 (fun _ _ _ => rfl) dX7_readRun_14 ?_
    replace hw := hw.2
    refine r_icmp_ge C dX7_readRun_17 109 (by decide) (fun hc => ?_) (fun hc => ?_)
    · replace hw := hw.1 hc
      refine r_sub [0, 1, 2] rfl ?_
      exact tb_X7_readRun_109 (by decide) C hr  hw
    · replace hw := hw.2 hc
      refine r_aload_n C dX7_readRun_20 0 rfl ?_
      have hob := hw.1
      obtain ⟨rv1, hp, hw⟩ := hw.2
      refine r_getP C fl_RX7_15_3 hob hp (fun _ _ _ => rfl) dX7_readRun_21 ?_
      refine r_aload_n C dX7_readRun_24 0 rfl ?_
      refine r_getI C fl_RX7_43_3 hw.1 (fun _ _ _ => rfl) dX7_readRun_25 ?_
      replace hw := hw.2
      refine r_baload C hw.1 hw.2.1 dX7_readRun_28 ?_
      replace hw := hw.2.2
      refine r_topi fun iv2 eiv2 => ?_
      replace hw := hw iv2 eiv2
      refine r_istore_n C dX7_readRun_29 [(3, .int iv2), (0, .ref (G.1 + al0)), (1, .int xl1), (2, .int xl2)] (by decide) rfl ?_
      refine r_iload_n C dX7_readRun_30 0 rfl ?_
      refine r_bipush (v := 97) C dX7_readRun_31 (by decide) ?_
      refine r_icmp_lt C dX7_readRun_33 65 (by decide) (fun hc => ?_) (fun hc => ?_)
      · replace hw := hw.1 hc
        refine r_sub [1, 2, 3, 0] rfl ?_
        exact tb_X7_readRun_65 (by decide) C hr hK9 hw
      · replace hw := hw.2 hc
        refine r_iload_n C dX7_readRun_36 0 rfl ?_
        refine r_bipush (v := 122) C dX7_readRun_37 (by decide) ?_
        refine r_icmp_gt C dX7_readRun_39 65 (by decide) (fun hc => ?_) (fun hc => ?_)
        · replace hw := hw.1 hc
          refine r_sub [1, 2, 3, 0] rfl ?_
          exact tb_X7_readRun_65 (by decide) C hr hK9 hw
        · replace hw := hw.2 hc
          obtain ⟨iv3, eiv3⟩ : ∃ q : Int32, q = xl1 + 1 := ⟨_, rfl⟩
          replace hw := hw iv3 eiv3
          refine r_iinc C dX7_readRun_42 2 rfl (by rw [eiv3]; rfl) [(1, .int iv3), (3, .int iv2), (0, .ref (G.1 + al0)), (2, .int xl2)] (by decide) rfl ?_
          refine r_aload_n C dX7_readRun_45 2 rfl ?_
          refine r_aload_n C dX7_readRun_46 2 rfl ?_
          refine r_getI C fl_RX7_67_3 hw.1 (fun _ _ _ => rfl) dX7_readRun_47 ?_
          replace hw := hw.2
          refine r_iconst (v := 5) C dX7_readRun_50 (by decide) ?_
          refine r_ishl C dX7_readRun_51 ?_
          refine r_iload_n C dX7_readRun_52 1 rfl ?_
          refine r_bipush (v := 97) C dX7_readRun_53 (by decide) ?_
          refine r_isub C dX7_readRun_55 ?_
          refine r_iconst (v := 1) C dX7_readRun_56 (by decide) ?_
          refine r_iadd C dX7_readRun_57 ?_
          refine r_ior C dX7_readRun_58 ?_
          refine r_putI C fp_RX7_67_3 hw.1 rfl dX7_readRun_59 ?_
          replace hw := hw.2
          refine r_toph fun hv4 ehv4 => ?_
          replace hw := hw hv4 ehv4
          refine r_goto C dX7_readRun_62 96 (by decide) ?_
          refine r_sub [2, 0, 3] rfl ?_
          exact tb_X7_readRun_96 (by decide) C hr hK9 hw
def wl_X7_readRun_9 (ci : Nat)  (post : AH → Prop) : Nat → AH → Nat → Int32 → Int32 → Prop
  | 0 => fun _ _ _ _ => False
  | n + 1 => fun h al0 xl1 xl2 => wb_X7_readRun_9 ci  (wl_X7_readRun_9 ci  post n) h al0 xl1 xl2 post
theorem tl_X7_readRun_9 {ci : Nat} (hci : ci = 2 ∨ ci = 3) {G : GG} {p : Program} {l : Launch} {e : Env} {R : Room} {s : State} {m : MethodId} {args : Array Value} {below : List Frame} {meth : Method} {c : Code} {n0 s0 : Nat} {post : AH → Prop} (C : Cx G p R s m args meth c 4 cX7_readRun RX7 n0 s0 0 0) (hr : meth.sig.returnType = none)   : ∀ (n : Nat) (h : AH) (al0 : Nat) (xl1 : Int32) (xl2 : Int32), wl_X7_readRun_9 ci  post n h al0 xl1 xl2 → AW G p l e R s m args below meth c 4 (QM G (pV post) args s below n0 s0) 9 [(0, .ref (G.1 + al0)), (1, .int xl1), (2, .int xl2)] [] h := by
  intro n
  induction n with
  | zero => intro h al0 xl1 xl2 hw; exact hw.elim
  | succ n ih => intro h al0 xl1 xl2 hw; exact tb_X7_readRun_9 hci C hr  ih hw
def wp_X7_readRun (ci : Nat) (h : AH) (a0 : Nat) (post : AH → Prop) : Prop := (ob h a0 ci) ∧ (∀ hv1 : AH, hv1 = hI h a0 7 0 → (∃ n, wl_X7_readRun_9 ci  post n hv1 a0 0 0))
set_option maxRecDepth 100000 in
theorem c_X7_readRun {ci : Nat} (hci : ci = 2 ∨ ci = 3) (G : GG) (h : AH) (a0 : Nat) (post : AH → Prop) (hw : wp_X7_readRun ci h a0 post) : MC G yX7_readRun cX7_readRun 4 none 0 0 h [.ref (G.1 + a0)] (pV post) := by
  refine MC.of (lv := [(0, .ref (G.1 + a0))]) (by decide) (Nat.le_of_ble_eq_true rfl) rfl fun p l e R s m args below meth c C hr hnm => ?_
  unfold wp_X7_readRun at hw
  rcases hci with rfl | rfl
  · refine r_iconst (v := 0) C dX7_readRun_0 (by decide) ?_
    refine r_istore_n C dX7_readRun_1 [(1, .int 0), (0, .ref (G.1 + a0))] (by decide) rfl ?_
    refine r_iconst (v := 0) C dX7_readRun_2 (by decide) ?_
    refine r_istore_n C dX7_readRun_3 [(2, .int 0), (1, .int 0), (0, .ref (G.1 + a0))] (by decide) rfl ?_
    refine r_aload_n C dX7_readRun_4 2 rfl ?_
    refine r_iconst (v := 0) C dX7_readRun_5 (by decide) ?_
    refine r_putI C fp_RX7_67_2 hw.1 rfl dX7_readRun_6 ?_
    replace hw := hw.2
    refine r_toph fun hv1 ehv1 => ?_
    replace hw := hw hv1 ehv1
    refine r_sub [2, 1, 0] rfl ?_
    obtain ⟨n, hw⟩ := hw
    exact tl_X7_readRun_9 (by decide) C hr  n _ _ _ _ hw
  · refine r_iconst (v := 0) C dX7_readRun_0 (by decide) ?_
    refine r_istore_n C dX7_readRun_1 [(1, .int 0), (0, .ref (G.1 + a0))] (by decide) rfl ?_
    refine r_iconst (v := 0) C dX7_readRun_2 (by decide) ?_
    refine r_istore_n C dX7_readRun_3 [(2, .int 0), (1, .int 0), (0, .ref (G.1 + a0))] (by decide) rfl ?_
    refine r_aload_n C dX7_readRun_4 2 rfl ?_
    refine r_iconst (v := 0) C dX7_readRun_5 (by decide) ?_
    refine r_putI C fp_RX7_67_3 hw.1 rfl dX7_readRun_6 ?_
    replace hw := hw.2
    refine r_toph fun hv1 ehv1 => ?_
    replace hw := hw hv1 ehv1
    refine r_sub [2, 1, 0] rfl ?_
    obtain ⟨n, hw⟩ := hw
    exact tl_X7_readRun_9 (by decide) C hr  n _ _ _ _ hw
theorem dX7_wordOf_0 : decode cX7_wordOf 0 = .ok (.iconst 0, 1) := by decide +kernel
theorem dX7_wordOf_1 : decode cX7_wordOf 1 = .ok (.istore_n 2, 1) := by decide +kernel
theorem dX7_wordOf_2 : decode cX7_wordOf 2 = .ok (.iload_n 2, 1) := by decide +kernel
theorem dX7_wordOf_3 : decode cX7_wordOf 3 = .ok (.bipush 18, 2) := by decide +kernel
theorem dX7_wordOf_5 : decode cX7_wordOf 5 = .ok (.if_icmp .ge 21, 3) := by decide +kernel
theorem dX7_wordOf_8 : decode cX7_wordOf 8 = .ok (.aload_n 0, 1) := by decide +kernel
theorem dX7_wordOf_9 : decode cX7_wordOf 9 = .ok (.getfield 11, 3) := by decide +kernel
theorem dX7_wordOf_12 : decode cX7_wordOf 12 = .ok (.iload_n 2, 1) := by decide +kernel
theorem dX7_wordOf_13 : decode cX7_wordOf 13 = .ok (.iaload, 1) := by decide +kernel
theorem dX7_wordOf_14 : decode cX7_wordOf 14 = .ok (.iload_n 1, 1) := by decide +kernel
theorem dX7_wordOf_15 : decode cX7_wordOf 15 = .ok (.if_icmp .ne 5, 3) := by decide +kernel
theorem dX7_wordOf_18 : decode cX7_wordOf 18 = .ok (.iload_n 2, 1) := by decide +kernel
theorem dX7_wordOf_19 : decode cX7_wordOf 19 = .ok (.ireturn, 1) := by decide +kernel
theorem dX7_wordOf_20 : decode cX7_wordOf 20 = .ok (.iinc 2 1, 3) := by decide +kernel
theorem dX7_wordOf_23 : decode cX7_wordOf 23 = .ok (.goto (-21), 3) := by decide +kernel
theorem dX7_wordOf_26 : decode cX7_wordOf 26 = .ok (.iconst (-1), 1) := by decide +kernel
theorem dX7_wordOf_27 : decode cX7_wordOf 27 = .ok (.ireturn, 1) := by decide +kernel
def wb_X7_wordOf_2 (ci : Nat) (K2 : AH → Nat → Int32 → Int32 → Prop) (h : AH) (al0 : Nat) (xl1 : Int32) (xl2 : Int32)  (post : AH → Int32 → Prop) : Prop := (18 ≤ xl2 → (post h (-1))) ∧ (¬ 18 ≤ xl2 → ((ob h al0 ci) ∧ (∃ rv1, aP h al0 0 = some rv1 ∧ ((ob h rv1 13) ∧ ((vp_in xl2 (aL h rv1)) ∧ ((¬ (aI h rv1 xl2.toNatClampNeg) = xl1 → (∀ iv2 : Int32, iv2 = xl2 + 1 → (K2 h al0 xl1 iv2))) ∧ ((aI h rv1 xl2.toNatClampNeg) = xl1 → (post h xl2))))))))
set_option maxRecDepth 100000 in
theorem tb_X7_wordOf_2 {ci : Nat} (hci : ci = 2 ∨ ci = 3) {G : GG} {p : Program} {l : Launch} {e : Env} {R : Room} {s : State} {m : MethodId} {args : Array Value} {below : List Frame} {meth : Method} {c : Code} {n0 s0 : Nat} {post : AH → Int32 → Prop} (C : Cx G p R s m args meth c 3 cX7_wordOf RX7 n0 s0 0 0) (hr : meth.sig.returnType = (some .int)) {K2 : AH → Nat → Int32 → Int32 → Prop} (hK2 : ∀ (h : AH) (al0 : Nat) (xl1 : Int32) (xl2 : Int32), K2 h al0 xl1 xl2 → AW G p l e R s m args below meth c 3 (QM G (pI post) args s below n0 s0) 2 [(0, .ref (G.1 + al0)), (1, .int xl1), (2, .int xl2)] [] h) {h : AH} {al0 : Nat} {xl1 : Int32} {xl2 : Int32}  (hw : wb_X7_wordOf_2 ci K2 h al0 xl1 xl2 post) : AW G p l e R s m args below meth c 3 (QM G (pI post) args s below n0 s0) 2 [(0, .ref (G.1 + al0)), (1, .int xl1), (2, .int xl2)] [] h := by
  unfold wb_X7_wordOf_2 at hw
  rcases hci with rfl | rfl
  · refine r_iload_n C dX7_wordOf_2 2 rfl ?_
    refine r_bipush (v := 18) C dX7_wordOf_3 (by decide) ?_
    refine r_icmp_ge C dX7_wordOf_5 26 (by decide) (fun hc => ?_) (fun hc => ?_)
    · replace hw := hw.1 hc
      refine r_iconst (v := (-1)) C dX7_wordOf_26 (by decide) ?_
      exact r_iret C hr dX7_wordOf_27 hw
    · replace hw := hw.2 hc
      refine r_aload_n C dX7_wordOf_8 0 rfl ?_
      have hob := hw.1
      obtain ⟨rv1, hp, hw⟩ := hw.2
      refine r_getP C fl_RX7_11_2 hob hp (fun _ _ _ => rfl) dX7_wordOf_9 ?_
      refine r_iload_n C dX7_wordOf_12 2 rfl ?_
      refine r_iaload C hw.1 hw.2.1 dX7_wordOf_13 ?_
      replace hw := hw.2.2
      refine r_iload_n C dX7_wordOf_14 1 rfl ?_
      refine r_icmp_ne C dX7_wordOf_15 20 (by decide) (fun hc => ?_) (fun hc => ?_)
      · replace hw := hw.1 hc
        obtain ⟨iv2, eiv2⟩ : ∃ q : Int32, q = xl2 + 1 := ⟨_, rfl⟩
        replace hw := hw iv2 eiv2
        refine r_iinc C dX7_wordOf_20 2 rfl (by rw [eiv2]; rfl) [(2, .int iv2), (0, .ref (G.1 + al0)), (1, .int xl1)] (by decide) rfl ?_
        refine r_goto C dX7_wordOf_23 2 (by decide) ?_
        refine r_sub [1, 2, 0] rfl ?_
        exact hK2 _ _ _ _ hw
      · replace hw := hw.2 hc
        refine r_iload_n C dX7_wordOf_18 2 rfl ?_
        exact r_iret C hr dX7_wordOf_19 hw
  · refine r_iload_n C dX7_wordOf_2 2 rfl ?_
    refine r_bipush (v := 18) C dX7_wordOf_3 (by decide) ?_
    refine r_icmp_ge C dX7_wordOf_5 26 (by decide) (fun hc => ?_) (fun hc => ?_)
    · replace hw := hw.1 hc
      refine r_iconst (v := (-1)) C dX7_wordOf_26 (by decide) ?_
      exact r_iret C hr dX7_wordOf_27 hw
    · replace hw := hw.2 hc
      refine r_aload_n C dX7_wordOf_8 0 rfl ?_
      have hob := hw.1
      obtain ⟨rv1, hp, hw⟩ := hw.2
      refine r_getP C fl_RX7_11_3 hob hp (fun _ _ _ => rfl) dX7_wordOf_9 ?_
      refine r_iload_n C dX7_wordOf_12 2 rfl ?_
      refine r_iaload C hw.1 hw.2.1 dX7_wordOf_13 ?_
      replace hw := hw.2.2
      refine r_iload_n C dX7_wordOf_14 1 rfl ?_
      refine r_icmp_ne C dX7_wordOf_15 20 (by decide) (fun hc => ?_) (fun hc => ?_)
      · replace hw := hw.1 hc
        obtain ⟨iv2, eiv2⟩ : ∃ q : Int32, q = xl2 + 1 := ⟨_, rfl⟩
        replace hw := hw iv2 eiv2
        refine r_iinc C dX7_wordOf_20 2 rfl (by rw [eiv2]; rfl) [(2, .int iv2), (0, .ref (G.1 + al0)), (1, .int xl1)] (by decide) rfl ?_
        refine r_goto C dX7_wordOf_23 2 (by decide) ?_
        refine r_sub [1, 2, 0] rfl ?_
        exact hK2 _ _ _ _ hw
      · replace hw := hw.2 hc
        refine r_iload_n C dX7_wordOf_18 2 rfl ?_
        exact r_iret C hr dX7_wordOf_19 hw
def wl_X7_wordOf_2 (ci : Nat)  (post : AH → Int32 → Prop) : Nat → AH → Nat → Int32 → Int32 → Prop
  | 0 => fun _ _ _ _ => False
  | n + 1 => fun h al0 xl1 xl2 => wb_X7_wordOf_2 ci  (wl_X7_wordOf_2 ci  post n) h al0 xl1 xl2 post
theorem tl_X7_wordOf_2 {ci : Nat} (hci : ci = 2 ∨ ci = 3) {G : GG} {p : Program} {l : Launch} {e : Env} {R : Room} {s : State} {m : MethodId} {args : Array Value} {below : List Frame} {meth : Method} {c : Code} {n0 s0 : Nat} {post : AH → Int32 → Prop} (C : Cx G p R s m args meth c 3 cX7_wordOf RX7 n0 s0 0 0) (hr : meth.sig.returnType = (some .int))   : ∀ (n : Nat) (h : AH) (al0 : Nat) (xl1 : Int32) (xl2 : Int32), wl_X7_wordOf_2 ci  post n h al0 xl1 xl2 → AW G p l e R s m args below meth c 3 (QM G (pI post) args s below n0 s0) 2 [(0, .ref (G.1 + al0)), (1, .int xl1), (2, .int xl2)] [] h := by
  intro n
  induction n with
  | zero => intro h al0 xl1 xl2 hw; exact hw.elim
  | succ n ih => intro h al0 xl1 xl2 hw; exact tb_X7_wordOf_2 hci C hr  ih hw
def wp_X7_wordOf (ci : Nat) (h : AH) (a0 : Nat) (x1 : Int32) (post : AH → Int32 → Prop) : Prop := ∃ n, wl_X7_wordOf_2 ci  post n h a0 x1 0
set_option maxRecDepth 100000 in
theorem c_X7_wordOf {ci : Nat} (hci : ci = 2 ∨ ci = 3) (G : GG) (h : AH) (a0 : Nat) (x1 : Int32) (post : AH → Int32 → Prop) (hw : wp_X7_wordOf ci h a0 x1 post) : MC G yX7_wordOf cX7_wordOf 3 (some .int) 0 0 h [.ref (G.1 + a0), .int x1] (pI post) := by
  refine MC.of (lv := [(0, .ref (G.1 + a0)), (1, .int x1)]) (by decide) (Nat.le_of_ble_eq_true rfl) rfl fun p l e R s m args below meth c C hr hnm => ?_
  unfold wp_X7_wordOf at hw
  rcases hci with rfl | rfl
  · refine r_iconst (v := 0) C dX7_wordOf_0 (by decide) ?_
    refine r_istore_n C dX7_wordOf_1 [(2, .int 0), (0, .ref (G.1 + a0)), (1, .int x1)] (by decide) rfl ?_
    refine r_sub [1, 2, 0] rfl ?_
    obtain ⟨n, hw⟩ := hw
    exact tl_X7_wordOf_2 (by decide) C hr  n _ _ _ _ hw
  · refine r_iconst (v := 0) C dX7_wordOf_0 (by decide) ?_
    refine r_istore_n C dX7_wordOf_1 [(2, .int 0), (0, .ref (G.1 + a0)), (1, .int x1)] (by decide) rfl ?_
    refine r_sub [1, 2, 0] rfl ?_
    obtain ⟨n, hw⟩ := hw
    exact tl_X7_wordOf_2 (by decide) C hr  n _ _ _ _ hw
theorem dX7_advance_0 : decode cX7_advance 0 = .ok (.aload_n 0, 1) := by decide +kernel
theorem dX7_advance_1 : decode cX7_advance 1 = .ok (.getfield 49, 3) := by decide +kernel
theorem dX7_advance_4 : decode cX7_advance 4 = .ok (.ifCond .eq 4, 3) := by decide +kernel
theorem dX7_advance_7 : decode cX7_advance 7 = .ok (.return_, 1) := by decide +kernel
theorem dX7_advance_8 : decode cX7_advance 8 = .ok (.aload_n 0, 1) := by decide +kernel
theorem dX7_advance_9 : decode cX7_advance 9 = .ok (.iconst (-1), 1) := by decide +kernel
theorem dX7_advance_10 : decode cX7_advance 10 = .ok (.putfield 55, 3) := by decide +kernel
theorem dX7_advance_13 : decode cX7_advance 13 = .ok (.aload_n 0, 1) := by decide +kernel
theorem dX7_advance_14 : decode cX7_advance 14 = .ok (.iconst 0, 1) := by decide +kernel
theorem dX7_advance_15 : decode cX7_advance 15 = .ok (.putfield 58, 3) := by decide +kernel
theorem dX7_advance_18 : decode cX7_advance 18 = .ok (.aload_n 0, 1) := by decide +kernel
theorem dX7_advance_19 : decode cX7_advance 19 = .ok (.getfield 37, 3) := by decide +kernel
theorem dX7_advance_22 : decode cX7_advance 22 = .ok (.aload_n 0, 1) := by decide +kernel
theorem dX7_advance_23 : decode cX7_advance 23 = .ok (.getfield 40, 3) := by decide +kernel
theorem dX7_advance_26 : decode cX7_advance 26 = .ok (.invokestatic 31, 3) := by decide +kernel
theorem dX7_advance_29 : decode cX7_advance 29 = .ok (.istore_n 1, 1) := by decide +kernel
theorem dX7_advance_30 : decode cX7_advance 30 = .ok (.aload_n 0, 1) := by decide +kernel
theorem dX7_advance_31 : decode cX7_advance 31 = .ok (.getfield 43, 3) := by decide +kernel
theorem dX7_advance_34 : decode cX7_advance 34 = .ok (.iload_n 1, 1) := by decide +kernel
theorem dX7_advance_35 : decode cX7_advance 35 = .ok (.if_icmp .ge 44, 3) := by decide +kernel
theorem dX7_advance_38 : decode cX7_advance 38 = .ok (.aload_n 0, 1) := by decide +kernel
theorem dX7_advance_39 : decode cX7_advance 39 = .ok (.getfield 15, 3) := by decide +kernel
theorem dX7_advance_42 : decode cX7_advance 42 = .ok (.aload_n 0, 1) := by decide +kernel
theorem dX7_advance_43 : decode cX7_advance 43 = .ok (.getfield 43, 3) := by decide +kernel
theorem dX7_advance_46 : decode cX7_advance 46 = .ok (.baload, 1) := by decide +kernel
theorem dX7_advance_47 : decode cX7_advance 47 = .ok (.bipush 32, 2) := by decide +kernel
theorem dX7_advance_49 : decode cX7_advance 49 = .ok (.if_icmp .eq 17, 3) := by decide +kernel
theorem dX7_advance_52 : decode cX7_advance 52 = .ok (.aload_n 0, 1) := by decide +kernel
theorem dX7_advance_53 : decode cX7_advance 53 = .ok (.getfield 15, 3) := by decide +kernel
theorem dX7_advance_56 : decode cX7_advance 56 = .ok (.aload_n 0, 1) := by decide +kernel
theorem dX7_advance_57 : decode cX7_advance 57 = .ok (.getfield 43, 3) := by decide +kernel
theorem dX7_advance_60 : decode cX7_advance 60 = .ok (.baload, 1) := by decide +kernel
theorem dX7_advance_61 : decode cX7_advance 61 = .ok (.bipush 10, 2) := by decide +kernel
theorem dX7_advance_63 : decode cX7_advance 63 = .ok (.if_icmp .ne 16, 3) := by decide +kernel
theorem dX7_advance_66 : decode cX7_advance 66 = .ok (.aload_n 0, 1) := by decide +kernel
theorem dX7_advance_67 : decode cX7_advance 67 = .ok (.dup, 1) := by decide +kernel
theorem dX7_advance_68 : decode cX7_advance 68 = .ok (.getfield 43, 3) := by decide +kernel
theorem dX7_advance_71 : decode cX7_advance 71 = .ok (.iconst 1, 1) := by decide +kernel
theorem dX7_advance_72 : decode cX7_advance 72 = .ok (.iadd, 1) := by decide +kernel
theorem dX7_advance_73 : decode cX7_advance 73 = .ok (.putfield 43, 3) := by decide +kernel
theorem dX7_advance_76 : decode cX7_advance 76 = .ok (.goto (-46), 3) := by decide +kernel
theorem dX7_advance_79 : decode cX7_advance 79 = .ok (.aload_n 0, 1) := by decide +kernel
theorem dX7_advance_80 : decode cX7_advance 80 = .ok (.getfield 43, 3) := by decide +kernel
theorem dX7_advance_83 : decode cX7_advance 83 = .ok (.iload_n 1, 1) := by decide +kernel
theorem dX7_advance_84 : decode cX7_advance 84 = .ok (.if_icmp .lt 16, 3) := by decide +kernel
theorem dX7_advance_87 : decode cX7_advance 87 = .ok (.aload_n 0, 1) := by decide +kernel
theorem dX7_advance_88 : decode cX7_advance 88 = .ok (.iload_n 1, 1) := by decide +kernel
theorem dX7_advance_89 : decode cX7_advance 89 = .ok (.putfield 46, 3) := by decide +kernel
theorem dX7_advance_92 : decode cX7_advance 92 = .ok (.aload_n 0, 1) := by decide +kernel
theorem dX7_advance_93 : decode cX7_advance 93 = .ok (.iconst 4, 1) := by decide +kernel
theorem dX7_advance_94 : decode cX7_advance 94 = .ok (.putfield 61, 3) := by decide +kernel
theorem dX7_advance_97 : decode cX7_advance 97 = .ok (.goto 75, 3) := by decide +kernel
theorem dX7_advance_100 : decode cX7_advance 100 = .ok (.aload_n 0, 1) := by decide +kernel
theorem dX7_advance_101 : decode cX7_advance 101 = .ok (.getfield 15, 3) := by decide +kernel
theorem dX7_advance_104 : decode cX7_advance 104 = .ok (.aload_n 0, 1) := by decide +kernel
theorem dX7_advance_105 : decode cX7_advance 105 = .ok (.getfield 43, 3) := by decide +kernel
theorem dX7_advance_108 : decode cX7_advance 108 = .ok (.baload, 1) := by decide +kernel
theorem dX7_advance_109 : decode cX7_advance 109 = .ok (.bipush 59, 2) := by decide +kernel
theorem dX7_advance_111 : decode cX7_advance 111 = .ok (.if_icmp .ne 29, 3) := by decide +kernel
theorem dX7_advance_114 : decode cX7_advance 114 = .ok (.aload_n 0, 1) := by decide +kernel
theorem dX7_advance_115 : decode cX7_advance 115 = .ok (.aload_n 0, 1) := by decide +kernel
theorem dX7_advance_116 : decode cX7_advance 116 = .ok (.getfield 43, 3) := by decide +kernel
theorem dX7_advance_119 : decode cX7_advance 119 = .ok (.putfield 46, 3) := by decide +kernel
theorem dX7_advance_122 : decode cX7_advance 122 = .ok (.aload_n 0, 1) := by decide +kernel
theorem dX7_advance_123 : decode cX7_advance 123 = .ok (.iconst 3, 1) := by decide +kernel
theorem dX7_advance_124 : decode cX7_advance 124 = .ok (.putfield 61, 3) := by decide +kernel
theorem dX7_advance_127 : decode cX7_advance 127 = .ok (.aload_n 0, 1) := by decide +kernel
theorem dX7_advance_128 : decode cX7_advance 128 = .ok (.dup, 1) := by decide +kernel
theorem dX7_advance_129 : decode cX7_advance 129 = .ok (.getfield 43, 3) := by decide +kernel
theorem dX7_advance_132 : decode cX7_advance 132 = .ok (.iconst 1, 1) := by decide +kernel
theorem dX7_advance_133 : decode cX7_advance 133 = .ok (.iadd, 1) := by decide +kernel
theorem dX7_advance_134 : decode cX7_advance 134 = .ok (.putfield 43, 3) := by decide +kernel
theorem dX7_advance_137 : decode cX7_advance 137 = .ok (.goto 35, 3) := by decide +kernel
theorem dX7_advance_140 : decode cX7_advance 140 = .ok (.aload_n 0, 1) := by decide +kernel
theorem dX7_advance_141 : decode cX7_advance 141 = .ok (.aload_n 0, 1) := by decide +kernel
theorem dX7_advance_142 : decode cX7_advance 142 = .ok (.getfield 43, 3) := by decide +kernel
theorem dX7_advance_145 : decode cX7_advance 145 = .ok (.putfield 46, 3) := by decide +kernel
theorem dX7_advance_148 : decode cX7_advance 148 = .ok (.aload_n 0, 1) := by decide +kernel
theorem dX7_advance_149 : decode cX7_advance 149 = .ok (.invokevirtual 64, 3) := by decide +kernel
theorem dX7_advance_152 : decode cX7_advance 152 = .ok (.aload_n 0, 1) := by decide +kernel
theorem dX7_advance_153 : decode cX7_advance 153 = .ok (.getfield 61, 3) := by decide +kernel
theorem dX7_advance_156 : decode cX7_advance 156 = .ok (.iconst 1, 1) := by decide +kernel
theorem dX7_advance_157 : decode cX7_advance 157 = .ok (.if_icmp .ne 15, 3) := by decide +kernel
theorem dX7_advance_160 : decode cX7_advance 160 = .ok (.aload_n 0, 1) := by decide +kernel
theorem dX7_advance_161 : decode cX7_advance 161 = .ok (.aload_n 0, 1) := by decide +kernel
theorem dX7_advance_162 : decode cX7_advance 162 = .ok (.aload_n 0, 1) := by decide +kernel
theorem dX7_advance_163 : decode cX7_advance 163 = .ok (.getfield 67, 3) := by decide +kernel
theorem dX7_advance_166 : decode cX7_advance 166 = .ok (.invokevirtual 70, 3) := by decide +kernel
theorem dX7_advance_169 : decode cX7_advance 169 = .ok (.putfield 55, 3) := by decide +kernel
theorem dX7_advance_172 : decode cX7_advance 172 = .ok (.return_, 1) := by decide +kernel
def wb_X7_advance_79 (ci : Nat)  (h : AH) (al0 : Nat) (xl1 : Int32)  (post : AH → Prop) : Prop := (ob h al0 ci) ∧ (((aI h al0 4) < xl1 → ((ob h al0 ci) ∧ (∃ rv1, aP h al0 1 = some rv1 ∧ ((ob h al0 ci) ∧ ((ob h rv1 12) ∧ ((vp_in (aI h al0 4) (aL h rv1)) ∧ ((¬ (aI h rv1 (aI h al0 4).toNatClampNeg) = 59 → ((ob h al0 ci) ∧ ((ob h al0 ci) ∧ (∀ hv2 : AH, hv2 = hI h al0 5 (aI h al0 4) → ((ob hv2 al0 ci) ∧ wp_X7_readRun ci hv2 al0  (fun hv3  => (ob hv3 al0 ci) ∧ ((¬ (aI hv3 al0 6) = 1 → (post hv3)) ∧ ((aI hv3 al0 6) = 1 → ((ob hv3 al0 ci) ∧ ((ob hv3 al0 ci) ∧ wp_X7_wordOf ci hv3 al0 (aI hv3 al0 7) (fun hv4 iv5 => (ob hv4 al0 ci) ∧ (∀ hv6 : AH, hv6 = hI hv4 al0 9 iv5 → (post hv6))))))))))))) ∧ ((aI h rv1 (aI h al0 4).toNatClampNeg) = 59 → ((ob h al0 ci) ∧ ((ob h al0 ci) ∧ (∀ hv7 : AH, hv7 = hI h al0 5 (aI h al0 4) → ((ob hv7 al0 ci) ∧ (∀ hv8 : AH, hv8 = hI hv7 al0 6 3 → ((ob hv8 al0 ci) ∧ ((ob hv8 al0 ci) ∧ (∀ hv9 : AH, hv9 = hI hv8 al0 4 ((aI hv8 al0 4) + (1 : Int32)) → (post hv9))))))))))))))))) ∧ (¬ (aI h al0 4) < xl1 → ((ob h al0 ci) ∧ (∀ hv10 : AH, hv10 = hI h al0 5 xl1 → ((ob hv10 al0 ci) ∧ (∀ hv11 : AH, hv11 = hI hv10 al0 6 4 → (post hv11)))))))
set_option maxRecDepth 100000 in
theorem tb_X7_advance_79 {ci : Nat} (hci : ci = 2 ∨ ci = 3) {G : GG} {p : Program} {l : Launch} {e : Env} {R : Room} {s : State} {m : MethodId} {args : Array Value} {below : List Frame} {meth : Method} {c : Code} {n0 s0 : Nat} {post : AH → Prop} (C : Cx G p R s m args meth c 2 cX7_advance RX7 n0 s0 1 23) (hr : meth.sig.returnType = none)   {h : AH} {al0 : Nat} {xl1 : Int32}  (hw : wb_X7_advance_79 ci  h al0 xl1 post) : AW G p l e R s m args below meth c 2 (QM G (pV post) args s below n0 s0) 79 [(0, .ref (G.1 + al0)), (1, .int xl1)] [] h := by
  unfold wb_X7_advance_79 at hw
  rcases hci with rfl | rfl
  · refine r_aload_n C dX7_advance_79 0 rfl ?_
    refine r_getI C fl_RX7_43_2 hw.1 (fun _ _ _ => rfl) dX7_advance_80 ?_
    replace hw := hw.2
    refine r_iload_n C dX7_advance_83 1 rfl ?_
    refine r_icmp_lt C dX7_advance_84 100 (by decide) (fun hc => ?_) (fun hc => ?_)
    · replace hw := hw.1 hc
      refine r_aload_n C dX7_advance_100 0 rfl ?_
      have hob := hw.1
      obtain ⟨rv1, hp, hw⟩ := hw.2
      refine r_getP C fl_RX7_15_2 hob hp (fun _ _ _ => rfl) dX7_advance_101 ?_
      refine r_aload_n C dX7_advance_104 0 rfl ?_
      refine r_getI C fl_RX7_43_2 hw.1 (fun _ _ _ => rfl) dX7_advance_105 ?_
      replace hw := hw.2
      refine r_baload C hw.1 hw.2.1 dX7_advance_108 ?_
      replace hw := hw.2.2
      refine r_bipush (v := 59) C dX7_advance_109 (by decide) ?_
      refine r_icmp_ne C dX7_advance_111 140 (by decide) (fun hc => ?_) (fun hc => ?_)
      · replace hw := hw.1 hc
        refine r_aload_n C dX7_advance_140 0 rfl ?_
        refine r_aload_n C dX7_advance_141 0 rfl ?_
        refine r_getI C fl_RX7_43_2 hw.1 (fun _ _ _ => rfl) dX7_advance_142 ?_
        replace hw := hw.2
        refine r_putI C fp_RX7_46_2 hw.1 rfl dX7_advance_145 ?_
        replace hw := hw.2
        refine r_toph fun hv2 ehv2 => ?_
        replace hw := hw hv2 ehv2
        refine r_aload_n C dX7_advance_148 0 rfl ?_
        have hob := hw.1
        replace hw := hw.2
        refine r_callV C (As := []) (rest := []) (c_X7_readRun (by decide) G hv2 al0  _ hw) yl_X7_readRun (gm3 (List.mem_of_getElem? (i := 148) rfl) rfl) (gm3 (List.mem_of_getElem? (i := 150) rfl) rfl) (ci := 2) rfl (by decide) (gxs (List.mem_of_getElem? (i := 0) rfl) rfl) hob (by decide) rfl (Nat.le_of_ble_eq_true rfl) dX7_advance_149 rfl (kV fun hv3  hw => ?_)
        refine r_aload_n C dX7_advance_152 0 rfl ?_
        refine r_getI C fl_RX7_61_2 hw.1 (fun _ _ _ => rfl) dX7_advance_153 ?_
        replace hw := hw.2
        refine r_iconst (v := 1) C dX7_advance_156 (by decide) ?_
        refine r_icmp_ne C dX7_advance_157 172 (by decide) (fun hc => ?_) (fun hc => ?_)
        · replace hw := hw.1 hc
          exact r_vret C hr dX7_advance_172 hw
        · replace hw := hw.2 hc
          refine r_aload_n C dX7_advance_160 0 rfl ?_
          refine r_aload_n C dX7_advance_161 0 rfl ?_
          refine r_aload_n C dX7_advance_162 0 rfl ?_
          refine r_getI C fl_RX7_67_2 hw.1 (fun _ _ _ => rfl) dX7_advance_163 ?_
          replace hw := hw.2
          have hob := hw.1
          replace hw := hw.2
          refine r_callV C (As := [.int (aI hv3 al0 7)]) (rest := [.ref (G.1 + al0)]) (c_X7_wordOf (by decide) G hv3 al0 (aI hv3 al0 7) _ hw) yl_X7_wordOf (gm3 (List.mem_of_getElem? (i := 152) rfl) rfl) (gm3 (List.mem_of_getElem? (i := 154) rfl) rfl) (ci := 2) rfl (by decide) (gxs (List.mem_of_getElem? (i := 2) rfl) rfl) hob (by decide) rfl (Nat.le_of_ble_eq_true rfl) dX7_advance_166 rfl (kI fun hv4 iv5 hw => ?_)
          refine r_putI C fp_RX7_55_2 hw.1 rfl dX7_advance_169 ?_
          replace hw := hw.2
          refine r_toph fun hv6 ehv6 => ?_
          replace hw := hw hv6 ehv6
          exact r_vret C hr dX7_advance_172 hw
      · replace hw := hw.2 hc
        refine r_aload_n C dX7_advance_114 0 rfl ?_
        refine r_aload_n C dX7_advance_115 0 rfl ?_
        refine r_getI C fl_RX7_43_2 hw.1 (fun _ _ _ => rfl) dX7_advance_116 ?_
        replace hw := hw.2
        refine r_putI C fp_RX7_46_2 hw.1 rfl dX7_advance_119 ?_
        replace hw := hw.2
        refine r_toph fun hv7 ehv7 => ?_
        replace hw := hw hv7 ehv7
        refine r_aload_n C dX7_advance_122 0 rfl ?_
        refine r_iconst (v := 3) C dX7_advance_123 (by decide) ?_
        refine r_putI C fp_RX7_61_2 hw.1 rfl dX7_advance_124 ?_
        replace hw := hw.2
        refine r_toph fun hv8 ehv8 => ?_
        replace hw := hw hv8 ehv8
        refine r_aload_n C dX7_advance_127 0 rfl ?_
        refine r_dup C dX7_advance_128 rfl ?_
        refine r_getI C fl_RX7_43_2 hw.1 (fun _ _ _ => rfl) dX7_advance_129 ?_
        replace hw := hw.2
        refine r_iconst (v := 1) C dX7_advance_132 (by decide) ?_
        refine r_iadd C dX7_advance_133 ?_
        refine r_putI C fp_RX7_43_2 hw.1 rfl dX7_advance_134 ?_
        replace hw := hw.2
        refine r_toph fun hv9 ehv9 => ?_
        replace hw := hw hv9 ehv9
        refine r_goto C dX7_advance_137 172 (by decide) ?_
        exact r_vret C hr dX7_advance_172 hw
    · replace hw := hw.2 hc
      refine r_aload_n C dX7_advance_87 0 rfl ?_
      refine r_iload_n C dX7_advance_88 1 rfl ?_
      refine r_putI C fp_RX7_46_2 hw.1 rfl dX7_advance_89 ?_
      replace hw := hw.2
      refine r_toph fun hv10 ehv10 => ?_
      replace hw := hw hv10 ehv10
      refine r_aload_n C dX7_advance_92 0 rfl ?_
      refine r_iconst (v := 4) C dX7_advance_93 (by decide) ?_
      refine r_putI C fp_RX7_61_2 hw.1 rfl dX7_advance_94 ?_
      replace hw := hw.2
      refine r_toph fun hv11 ehv11 => ?_
      replace hw := hw hv11 ehv11
      refine r_goto C dX7_advance_97 172 (by decide) ?_
      exact r_vret C hr dX7_advance_172 hw
  · refine r_aload_n C dX7_advance_79 0 rfl ?_
    refine r_getI C fl_RX7_43_3 hw.1 (fun _ _ _ => rfl) dX7_advance_80 ?_
    replace hw := hw.2
    refine r_iload_n C dX7_advance_83 1 rfl ?_
    refine r_icmp_lt C dX7_advance_84 100 (by decide) (fun hc => ?_) (fun hc => ?_)
    · replace hw := hw.1 hc
      refine r_aload_n C dX7_advance_100 0 rfl ?_
      have hob := hw.1
      obtain ⟨rv1, hp, hw⟩ := hw.2
      refine r_getP C fl_RX7_15_3 hob hp (fun _ _ _ => rfl) dX7_advance_101 ?_
      refine r_aload_n C dX7_advance_104 0 rfl ?_
      refine r_getI C fl_RX7_43_3 hw.1 (fun _ _ _ => rfl) dX7_advance_105 ?_
      replace hw := hw.2
      refine r_baload C hw.1 hw.2.1 dX7_advance_108 ?_
      replace hw := hw.2.2
      refine r_bipush (v := 59) C dX7_advance_109 (by decide) ?_
      refine r_icmp_ne C dX7_advance_111 140 (by decide) (fun hc => ?_) (fun hc => ?_)
      · replace hw := hw.1 hc
        refine r_aload_n C dX7_advance_140 0 rfl ?_
        refine r_aload_n C dX7_advance_141 0 rfl ?_
        refine r_getI C fl_RX7_43_3 hw.1 (fun _ _ _ => rfl) dX7_advance_142 ?_
        replace hw := hw.2
        refine r_putI C fp_RX7_46_3 hw.1 rfl dX7_advance_145 ?_
        replace hw := hw.2
        refine r_toph fun hv2 ehv2 => ?_
        replace hw := hw hv2 ehv2
        refine r_aload_n C dX7_advance_148 0 rfl ?_
        have hob := hw.1
        replace hw := hw.2
        refine r_callV C (As := []) (rest := []) (c_X7_readRun (by decide) G hv2 al0  _ hw) yl_X7_readRun (gm3 (List.mem_of_getElem? (i := 148) rfl) rfl) (gm3 (List.mem_of_getElem? (i := 150) rfl) rfl) (ci := 3) rfl (by decide) (gxs (List.mem_of_getElem? (i := 1) rfl) rfl) hob (by decide) rfl (Nat.le_of_ble_eq_true rfl) dX7_advance_149 rfl (kV fun hv3  hw => ?_)
        refine r_aload_n C dX7_advance_152 0 rfl ?_
        refine r_getI C fl_RX7_61_3 hw.1 (fun _ _ _ => rfl) dX7_advance_153 ?_
        replace hw := hw.2
        refine r_iconst (v := 1) C dX7_advance_156 (by decide) ?_
        refine r_icmp_ne C dX7_advance_157 172 (by decide) (fun hc => ?_) (fun hc => ?_)
        · replace hw := hw.1 hc
          exact r_vret C hr dX7_advance_172 hw
        · replace hw := hw.2 hc
          refine r_aload_n C dX7_advance_160 0 rfl ?_
          refine r_aload_n C dX7_advance_161 0 rfl ?_
          refine r_aload_n C dX7_advance_162 0 rfl ?_
          refine r_getI C fl_RX7_67_3 hw.1 (fun _ _ _ => rfl) dX7_advance_163 ?_
          replace hw := hw.2
          have hob := hw.1
          replace hw := hw.2
          refine r_callV C (As := [.int (aI hv3 al0 7)]) (rest := [.ref (G.1 + al0)]) (c_X7_wordOf (by decide) G hv3 al0 (aI hv3 al0 7) _ hw) yl_X7_wordOf (gm3 (List.mem_of_getElem? (i := 152) rfl) rfl) (gm3 (List.mem_of_getElem? (i := 154) rfl) rfl) (ci := 3) rfl (by decide) (gxs (List.mem_of_getElem? (i := 3) rfl) rfl) hob (by decide) rfl (Nat.le_of_ble_eq_true rfl) dX7_advance_166 rfl (kI fun hv4 iv5 hw => ?_)
          refine r_putI C fp_RX7_55_3 hw.1 rfl dX7_advance_169 ?_
          replace hw := hw.2
          refine r_toph fun hv6 ehv6 => ?_
          replace hw := hw hv6 ehv6
          exact r_vret C hr dX7_advance_172 hw
      · replace hw := hw.2 hc
        refine r_aload_n C dX7_advance_114 0 rfl ?_
        refine r_aload_n C dX7_advance_115 0 rfl ?_
        refine r_getI C fl_RX7_43_3 hw.1 (fun _ _ _ => rfl) dX7_advance_116 ?_
        replace hw := hw.2
        refine r_putI C fp_RX7_46_3 hw.1 rfl dX7_advance_119 ?_
        replace hw := hw.2
        refine r_toph fun hv7 ehv7 => ?_
        replace hw := hw hv7 ehv7
        refine r_aload_n C dX7_advance_122 0 rfl ?_
        refine r_iconst (v := 3) C dX7_advance_123 (by decide) ?_
        refine r_putI C fp_RX7_61_3 hw.1 rfl dX7_advance_124 ?_
        replace hw := hw.2
        refine r_toph fun hv8 ehv8 => ?_
        replace hw := hw hv8 ehv8
        refine r_aload_n C dX7_advance_127 0 rfl ?_
        refine r_dup C dX7_advance_128 rfl ?_
        refine r_getI C fl_RX7_43_3 hw.1 (fun _ _ _ => rfl) dX7_advance_129 ?_
        replace hw := hw.2
        refine r_iconst (v := 1) C dX7_advance_132 (by decide) ?_
        refine r_iadd C dX7_advance_133 ?_
        refine r_putI C fp_RX7_43_3 hw.1 rfl dX7_advance_134 ?_
        replace hw := hw.2
        refine r_toph fun hv9 ehv9 => ?_
        replace hw := hw hv9 ehv9
        refine r_goto C dX7_advance_137 172 (by decide) ?_
        exact r_vret C hr dX7_advance_172 hw
    · replace hw := hw.2 hc
      refine r_aload_n C dX7_advance_87 0 rfl ?_
      refine r_iload_n C dX7_advance_88 1 rfl ?_
      refine r_putI C fp_RX7_46_3 hw.1 rfl dX7_advance_89 ?_
      replace hw := hw.2
      refine r_toph fun hv10 ehv10 => ?_
      replace hw := hw hv10 ehv10
      refine r_aload_n C dX7_advance_92 0 rfl ?_
      refine r_iconst (v := 4) C dX7_advance_93 (by decide) ?_
      refine r_putI C fp_RX7_61_3 hw.1 rfl dX7_advance_94 ?_
      replace hw := hw.2
      refine r_toph fun hv11 ehv11 => ?_
      replace hw := hw hv11 ehv11
      refine r_goto C dX7_advance_97 172 (by decide) ?_
      exact r_vret C hr dX7_advance_172 hw
def wb_X7_advance_66 (ci : Nat) (K30 : AH → Nat → Int32 → Prop) (h : AH) (al0 : Nat) (xl1 : Int32)  (post : AH → Prop) : Prop := (ob h al0 ci) ∧ ((ob h al0 ci) ∧ (∀ hv1 : AH, hv1 = hI h al0 4 ((aI h al0 4) + (1 : Int32)) → (K30 hv1 al0 xl1)))
set_option maxRecDepth 100000 in
theorem tb_X7_advance_66 {ci : Nat} (hci : ci = 2 ∨ ci = 3) {G : GG} {p : Program} {l : Launch} {e : Env} {R : Room} {s : State} {m : MethodId} {args : Array Value} {below : List Frame} {meth : Method} {c : Code} {n0 s0 : Nat} {post : AH → Prop} (C : Cx G p R s m args meth c 2 cX7_advance RX7 n0 s0 1 23) (hr : meth.sig.returnType = none) {K30 : AH → Nat → Int32 → Prop} (hK30 : ∀ (h : AH) (al0 : Nat) (xl1 : Int32), K30 h al0 xl1 → AW G p l e R s m args below meth c 2 (QM G (pV post) args s below n0 s0) 30 [(0, .ref (G.1 + al0)), (1, .int xl1)] [] h) {h : AH} {al0 : Nat} {xl1 : Int32}  (hw : wb_X7_advance_66 ci K30 h al0 xl1 post) : AW G p l e R s m args below meth c 2 (QM G (pV post) args s below n0 s0) 66 [(0, .ref (G.1 + al0)), (1, .int xl1)] [] h := by
  unfold wb_X7_advance_66 at hw
  rcases hci with rfl | rfl
  · refine r_aload_n C dX7_advance_66 0 rfl ?_
    refine r_dup C dX7_advance_67 rfl ?_
    refine r_getI C fl_RX7_43_2 hw.1 (fun _ _ _ => rfl) dX7_advance_68 ?_
    replace hw := hw.2
    refine r_iconst (v := 1) C dX7_advance_71 (by decide) ?_
    refine r_iadd C dX7_advance_72 ?_
    refine r_putI C fp_RX7_43_2 hw.1 rfl dX7_advance_73 ?_
    replace hw := hw.2
    refine r_toph fun hv1 ehv1 => ?_
    replace hw := hw hv1 ehv1
    refine r_goto C dX7_advance_76 30 (by decide) ?_
    refine r_sub [0, 1] rfl ?_
    exact hK30 _ _ _ hw
  · refine r_aload_n C dX7_advance_66 0 rfl ?_
    refine r_dup C dX7_advance_67 rfl ?_
    refine r_getI C fl_RX7_43_3 hw.1 (fun _ _ _ => rfl) dX7_advance_68 ?_
    replace hw := hw.2
    refine r_iconst (v := 1) C dX7_advance_71 (by decide) ?_
    refine r_iadd C dX7_advance_72 ?_
    refine r_putI C fp_RX7_43_3 hw.1 rfl dX7_advance_73 ?_
    replace hw := hw.2
    refine r_toph fun hv1 ehv1 => ?_
    replace hw := hw hv1 ehv1
    refine r_goto C dX7_advance_76 30 (by decide) ?_
    refine r_sub [0, 1] rfl ?_
    exact hK30 _ _ _ hw
def wb_X7_advance_30 (ci : Nat) (K30 : AH → Nat → Int32 → Prop) (h : AH) (al0 : Nat) (xl1 : Int32)  (post : AH → Prop) : Prop := (ob h al0 ci) ∧ ((xl1 ≤ (aI h al0 4) → (wb_X7_advance_79 ci  h al0 xl1 post)) ∧ (¬ xl1 ≤ (aI h al0 4) → ((ob h al0 ci) ∧ (∃ rv1, aP h al0 1 = some rv1 ∧ ((ob h al0 ci) ∧ ((ob h rv1 12) ∧ ((vp_in (aI h al0 4) (aL h rv1)) ∧ (((aI h rv1 (aI h al0 4).toNatClampNeg) = 32 → (wb_X7_advance_66 ci K30 h al0 xl1 post)) ∧ (¬ (aI h rv1 (aI h al0 4).toNatClampNeg) = 32 → ((ob h al0 ci) ∧ (∃ rv2, aP h al0 1 = some rv2 ∧ ((ob h al0 ci) ∧ ((ob h rv2 12) ∧ ((vp_in (aI h al0 4) (aL h rv2)) ∧ ((¬ (aI h rv2 (aI h al0 4).toNatClampNeg) = 10 → (wb_X7_advance_79 ci  h al0 xl1 post)) ∧ ((aI h rv2 (aI h al0 4).toNatClampNeg) = 10 → (wb_X7_advance_66 ci K30 h al0 xl1 post)))))))))))))))))
set_option maxRecDepth 100000 in
theorem tb_X7_advance_30 {ci : Nat} (hci : ci = 2 ∨ ci = 3) {G : GG} {p : Program} {l : Launch} {e : Env} {R : Room} {s : State} {m : MethodId} {args : Array Value} {below : List Frame} {meth : Method} {c : Code} {n0 s0 : Nat} {post : AH → Prop} (C : Cx G p R s m args meth c 2 cX7_advance RX7 n0 s0 1 23) (hr : meth.sig.returnType = none) {K30 : AH → Nat → Int32 → Prop} (hK30 : ∀ (h : AH) (al0 : Nat) (xl1 : Int32), K30 h al0 xl1 → AW G p l e R s m args below meth c 2 (QM G (pV post) args s below n0 s0) 30 [(0, .ref (G.1 + al0)), (1, .int xl1)] [] h) {h : AH} {al0 : Nat} {xl1 : Int32}  (hw : wb_X7_advance_30 ci K30 h al0 xl1 post) : AW G p l e R s m args below meth c 2 (QM G (pV post) args s below n0 s0) 30 [(0, .ref (G.1 + al0)), (1, .int xl1)] [] h := by
  unfold wb_X7_advance_30 at hw
  rcases hci with rfl | rfl
  · refine r_aload_n C dX7_advance_30 0 rfl ?_
    refine r_getI C fl_RX7_43_2 hw.1 (fun _ _ _ => rfl) dX7_advance_31 ?_
    replace hw := hw.2
    refine r_iload_n C dX7_advance_34 1 rfl ?_
    refine r_icmp_ge C dX7_advance_35 79 (by decide) (fun hc => ?_) (fun hc => ?_)
    · replace hw := hw.1 hc
      refine r_sub [0, 1] rfl ?_
      exact tb_X7_advance_79 (by decide) C hr  hw
    · replace hw := hw.2 hc
      refine r_aload_n C dX7_advance_38 0 rfl ?_
      have hob := hw.1
      obtain ⟨rv1, hp, hw⟩ := hw.2
      refine r_getP C fl_RX7_15_2 hob hp (fun _ _ _ => rfl) dX7_advance_39 ?_
      refine r_aload_n C dX7_advance_42 0 rfl ?_
      refine r_getI C fl_RX7_43_2 hw.1 (fun _ _ _ => rfl) dX7_advance_43 ?_
      replace hw := hw.2
      refine r_baload C hw.1 hw.2.1 dX7_advance_46 ?_
      replace hw := hw.2.2
      refine r_bipush (v := 32) C dX7_advance_47 (by decide) ?_
      refine r_icmp_eq C dX7_advance_49 66 (by decide) (fun hc => ?_) (fun hc => ?_)
      · replace hw := hw.1 hc
        refine r_sub [0, 1] rfl ?_
        exact tb_X7_advance_66 (by decide) C hr hK30 hw
      · replace hw := hw.2 hc
        refine r_aload_n C dX7_advance_52 0 rfl ?_
        have hob := hw.1
        obtain ⟨rv2, hp, hw⟩ := hw.2
        refine r_getP C fl_RX7_15_2 hob hp (fun _ _ _ => rfl) dX7_advance_53 ?_
        refine r_aload_n C dX7_advance_56 0 rfl ?_
        refine r_getI C fl_RX7_43_2 hw.1 (fun _ _ _ => rfl) dX7_advance_57 ?_
        replace hw := hw.2
        refine r_baload C hw.1 hw.2.1 dX7_advance_60 ?_
        replace hw := hw.2.2
        refine r_bipush (v := 10) C dX7_advance_61 (by decide) ?_
        refine r_icmp_ne C dX7_advance_63 79 (by decide) (fun hc => ?_) (fun hc => ?_)
        · replace hw := hw.1 hc
          refine r_sub [0, 1] rfl ?_
          exact tb_X7_advance_79 (by decide) C hr  hw
        · replace hw := hw.2 hc
          refine r_sub [0, 1] rfl ?_
          exact tb_X7_advance_66 (by decide) C hr hK30 hw
  · refine r_aload_n C dX7_advance_30 0 rfl ?_
    refine r_getI C fl_RX7_43_3 hw.1 (fun _ _ _ => rfl) dX7_advance_31 ?_
    replace hw := hw.2
    refine r_iload_n C dX7_advance_34 1 rfl ?_
    refine r_icmp_ge C dX7_advance_35 79 (by decide) (fun hc => ?_) (fun hc => ?_)
    · replace hw := hw.1 hc
      refine r_sub [0, 1] rfl ?_
      exact tb_X7_advance_79 (by decide) C hr  hw
    · replace hw := hw.2 hc
      refine r_aload_n C dX7_advance_38 0 rfl ?_
      have hob := hw.1
      obtain ⟨rv1, hp, hw⟩ := hw.2
      refine r_getP C fl_RX7_15_3 hob hp (fun _ _ _ => rfl) dX7_advance_39 ?_
      refine r_aload_n C dX7_advance_42 0 rfl ?_
      refine r_getI C fl_RX7_43_3 hw.1 (fun _ _ _ => rfl) dX7_advance_43 ?_
      replace hw := hw.2
      refine r_baload C hw.1 hw.2.1 dX7_advance_46 ?_
      replace hw := hw.2.2
      refine r_bipush (v := 32) C dX7_advance_47 (by decide) ?_
      refine r_icmp_eq C dX7_advance_49 66 (by decide) (fun hc => ?_) (fun hc => ?_)
      · replace hw := hw.1 hc
        refine r_sub [0, 1] rfl ?_
        exact tb_X7_advance_66 (by decide) C hr hK30 hw
      · replace hw := hw.2 hc
        refine r_aload_n C dX7_advance_52 0 rfl ?_
        have hob := hw.1
        obtain ⟨rv2, hp, hw⟩ := hw.2
        refine r_getP C fl_RX7_15_3 hob hp (fun _ _ _ => rfl) dX7_advance_53 ?_
        refine r_aload_n C dX7_advance_56 0 rfl ?_
        refine r_getI C fl_RX7_43_3 hw.1 (fun _ _ _ => rfl) dX7_advance_57 ?_
        replace hw := hw.2
        refine r_baload C hw.1 hw.2.1 dX7_advance_60 ?_
        replace hw := hw.2.2
        refine r_bipush (v := 10) C dX7_advance_61 (by decide) ?_
        refine r_icmp_ne C dX7_advance_63 79 (by decide) (fun hc => ?_) (fun hc => ?_)
        · replace hw := hw.1 hc
          refine r_sub [0, 1] rfl ?_
          exact tb_X7_advance_79 (by decide) C hr  hw
        · replace hw := hw.2 hc
          refine r_sub [0, 1] rfl ?_
          exact tb_X7_advance_66 (by decide) C hr hK30 hw
def wl_X7_advance_30 (ci : Nat)  (post : AH → Prop) : Nat → AH → Nat → Int32 → Prop
  | 0 => fun _ _ _ => False
  | n + 1 => fun h al0 xl1 => wb_X7_advance_30 ci  (wl_X7_advance_30 ci  post n) h al0 xl1 post
theorem tl_X7_advance_30 {ci : Nat} (hci : ci = 2 ∨ ci = 3) {G : GG} {p : Program} {l : Launch} {e : Env} {R : Room} {s : State} {m : MethodId} {args : Array Value} {below : List Frame} {meth : Method} {c : Code} {n0 s0 : Nat} {post : AH → Prop} (C : Cx G p R s m args meth c 2 cX7_advance RX7 n0 s0 1 23) (hr : meth.sig.returnType = none)   : ∀ (n : Nat) (h : AH) (al0 : Nat) (xl1 : Int32), wl_X7_advance_30 ci  post n h al0 xl1 → AW G p l e R s m args below meth c 2 (QM G (pV post) args s below n0 s0) 30 [(0, .ref (G.1 + al0)), (1, .int xl1)] [] h := by
  intro n
  induction n with
  | zero => intro h al0 xl1 hw; exact hw.elim
  | succ n ih => intro h al0 xl1 hw; exact tb_X7_advance_30 hci C hr  ih hw
def wp_X7_advance (ci : Nat) (h : AH) (a0 : Nat) (post : AH → Prop) : Prop := (ob h a0 ci) ∧ (((aI h a0 10) = 0 → ((ob h a0 ci) ∧ (∀ hv1 : AH, hv1 = hI h a0 9 (-1) → ((ob hv1 a0 ci) ∧ (∀ hv2 : AH, hv2 = hI hv1 a0 8 0 → ((ob hv2 a0 ci) ∧ ((ob hv2 a0 ci) ∧ (∀ iv3 : Int32, iv3 = mn (aI hv2 a0 2) (aI hv2 a0 3) → (∃ n, wl_X7_advance_30 ci  post n hv2 a0 iv3))))))))) ∧ (¬ (aI h a0 10) = 0 → (post h)))
set_option maxRecDepth 100000 in
theorem c_X7_advance {ci : Nat} (hci : ci = 2 ∨ ci = 3) (G : GG) (h : AH) (a0 : Nat) (post : AH → Prop) (hw : wp_X7_advance ci h a0 post) : MC G yX7_advance cX7_advance 2 none 1 23 h [.ref (G.1 + a0)] (pV post) := by
  refine MC.of (lv := [(0, .ref (G.1 + a0))]) (by decide) (Nat.le_of_ble_eq_true rfl) rfl fun p l e R s m args below meth c C hr hnm => ?_
  unfold wp_X7_advance at hw
  rcases hci with rfl | rfl
  · refine r_aload_n C dX7_advance_0 0 rfl ?_
    refine r_getI C fl_RX7_49_2 hw.1 (fun _ _ _ => rfl) dX7_advance_1 ?_
    replace hw := hw.2
    refine r_if_eq C dX7_advance_4 8 (by decide) (fun hc => ?_) (fun hc => ?_)
    · replace hw := hw.1 hc
      refine r_aload_n C dX7_advance_8 0 rfl ?_
      refine r_iconst (v := (-1)) C dX7_advance_9 (by decide) ?_
      refine r_putI C fp_RX7_55_2 hw.1 rfl dX7_advance_10 ?_
      replace hw := hw.2
      refine r_toph fun hv1 ehv1 => ?_
      replace hw := hw hv1 ehv1
      refine r_aload_n C dX7_advance_13 0 rfl ?_
      refine r_iconst (v := 0) C dX7_advance_14 (by decide) ?_
      refine r_putI C fp_RX7_58_2 hw.1 rfl dX7_advance_15 ?_
      replace hw := hw.2
      refine r_toph fun hv2 ehv2 => ?_
      replace hw := hw hv2 ehv2
      refine r_aload_n C dX7_advance_18 0 rfl ?_
      refine r_getI C fl_RX7_37_2 hw.1 (fun _ _ _ => rfl) dX7_advance_19 ?_
      replace hw := hw.2
      refine r_aload_n C dX7_advance_22 0 rfl ?_
      refine r_getI C fl_RX7_40_2 hw.1 (fun _ _ _ => rfl) dX7_advance_23 ?_
      replace hw := hw.2
      refine r_mmin C (gm3 (List.mem_of_getElem? (i := 121) rfl) rfl) (gm3 (List.mem_of_getElem? (i := 122) rfl) rfl) (gm1 (List.mem_of_getElem? (i := 19) rfl) rfl) (gm3 (List.mem_of_getElem? (i := 123) rfl) rfl) ⟨by decide, Nat.le_of_ble_eq_true rfl⟩ dX7_advance_26 ?_
      refine r_topi fun iv3 eiv3 => ?_
      replace hw := hw iv3 eiv3
      refine r_istore_n C dX7_advance_29 [(1, .int iv3), (0, .ref (G.1 + a0))] (by decide) rfl ?_
      refine r_sub [1, 0] rfl ?_
      obtain ⟨n, hw⟩ := hw
      exact tl_X7_advance_30 (by decide) C hr  n _ _ _ hw
    · replace hw := hw.2 hc
      exact r_vret C hr dX7_advance_7 hw
  · refine r_aload_n C dX7_advance_0 0 rfl ?_
    refine r_getI C fl_RX7_49_3 hw.1 (fun _ _ _ => rfl) dX7_advance_1 ?_
    replace hw := hw.2
    refine r_if_eq C dX7_advance_4 8 (by decide) (fun hc => ?_) (fun hc => ?_)
    · replace hw := hw.1 hc
      refine r_aload_n C dX7_advance_8 0 rfl ?_
      refine r_iconst (v := (-1)) C dX7_advance_9 (by decide) ?_
      refine r_putI C fp_RX7_55_3 hw.1 rfl dX7_advance_10 ?_
      replace hw := hw.2
      refine r_toph fun hv1 ehv1 => ?_
      replace hw := hw hv1 ehv1
      refine r_aload_n C dX7_advance_13 0 rfl ?_
      refine r_iconst (v := 0) C dX7_advance_14 (by decide) ?_
      refine r_putI C fp_RX7_58_3 hw.1 rfl dX7_advance_15 ?_
      replace hw := hw.2
      refine r_toph fun hv2 ehv2 => ?_
      replace hw := hw hv2 ehv2
      refine r_aload_n C dX7_advance_18 0 rfl ?_
      refine r_getI C fl_RX7_37_3 hw.1 (fun _ _ _ => rfl) dX7_advance_19 ?_
      replace hw := hw.2
      refine r_aload_n C dX7_advance_22 0 rfl ?_
      refine r_getI C fl_RX7_40_3 hw.1 (fun _ _ _ => rfl) dX7_advance_23 ?_
      replace hw := hw.2
      refine r_mmin C (gm3 (List.mem_of_getElem? (i := 121) rfl) rfl) (gm3 (List.mem_of_getElem? (i := 122) rfl) rfl) (gm1 (List.mem_of_getElem? (i := 19) rfl) rfl) (gm3 (List.mem_of_getElem? (i := 123) rfl) rfl) ⟨by decide, Nat.le_of_ble_eq_true rfl⟩ dX7_advance_26 ?_
      refine r_topi fun iv3 eiv3 => ?_
      replace hw := hw iv3 eiv3
      refine r_istore_n C dX7_advance_29 [(1, .int iv3), (0, .ref (G.1 + a0))] (by decide) rfl ?_
      refine r_sub [1, 0] rfl ?_
      obtain ⟨n, hw⟩ := hw
      exact tl_X7_advance_30 (by decide) C hr  n _ _ _ hw
    · replace hw := hw.2 hc
      exact r_vret C hr dX7_advance_7 hw
theorem dX7_fail_0 : decode cX7_fail 0 = .ok (.aload_n 0, 1) := by decide +kernel
theorem dX7_fail_1 : decode cX7_fail 1 = .ok (.getfield 49, 3) := by decide +kernel
theorem dX7_fail_4 : decode cX7_fail 4 = .ok (.ifCond .ne 16, 3) := by decide +kernel
theorem dX7_fail_7 : decode cX7_fail 7 = .ok (.aload_n 0, 1) := by decide +kernel
theorem dX7_fail_8 : decode cX7_fail 8 = .ok (.iload_n 1, 1) := by decide +kernel
theorem dX7_fail_9 : decode cX7_fail 9 = .ok (.putfield 49, 3) := by decide +kernel
theorem dX7_fail_12 : decode cX7_fail 12 = .ok (.aload_n 0, 1) := by decide +kernel
theorem dX7_fail_13 : decode cX7_fail 13 = .ok (.aload_n 0, 1) := by decide +kernel
theorem dX7_fail_14 : decode cX7_fail 14 = .ok (.getfield 46, 3) := by decide +kernel
theorem dX7_fail_17 : decode cX7_fail 17 = .ok (.putfield 52, 3) := by decide +kernel
theorem dX7_fail_20 : decode cX7_fail 20 = .ok (.return_, 1) := by decide +kernel
def wp_X7_fail (ci : Nat) (h : AH) (a0 : Nat) (x1 : Int32) (post : AH → Prop) : Prop := (ob h a0 ci) ∧ ((¬ (aI h a0 10) = 0 → (post h)) ∧ ((aI h a0 10) = 0 → ((ob h a0 ci) ∧ (∀ hv1 : AH, hv1 = hI h a0 10 x1 → ((ob hv1 a0 ci) ∧ ((ob hv1 a0 ci) ∧ (∀ hv2 : AH, hv2 = hI hv1 a0 11 (aI hv1 a0 5) → (post hv2))))))))
set_option maxRecDepth 100000 in
theorem c_X7_fail {ci : Nat} (hci : ci = 2 ∨ ci = 3) (G : GG) (h : AH) (a0 : Nat) (x1 : Int32) (post : AH → Prop) (hw : wp_X7_fail ci h a0 x1 post) : MC G yX7_fail cX7_fail 2 none 0 0 h [.ref (G.1 + a0), .int x1] (pV post) := by
  refine MC.of (lv := [(0, .ref (G.1 + a0)), (1, .int x1)]) (by decide) (Nat.le_of_ble_eq_true rfl) rfl fun p l e R s m args below meth c C hr hnm => ?_
  unfold wp_X7_fail at hw
  rcases hci with rfl | rfl
  · refine r_aload_n C dX7_fail_0 0 rfl ?_
    refine r_getI C fl_RX7_49_2 hw.1 (fun _ _ _ => rfl) dX7_fail_1 ?_
    replace hw := hw.2
    refine r_if_ne C dX7_fail_4 20 (by decide) (fun hc => ?_) (fun hc => ?_)
    · replace hw := hw.1 hc
      exact r_vret C hr dX7_fail_20 hw
    · replace hw := hw.2 hc
      refine r_aload_n C dX7_fail_7 0 rfl ?_
      refine r_iload_n C dX7_fail_8 1 rfl ?_
      refine r_putI C fp_RX7_49_2 hw.1 rfl dX7_fail_9 ?_
      replace hw := hw.2
      refine r_toph fun hv1 ehv1 => ?_
      replace hw := hw hv1 ehv1
      refine r_aload_n C dX7_fail_12 0 rfl ?_
      refine r_aload_n C dX7_fail_13 0 rfl ?_
      refine r_getI C fl_RX7_46_2 hw.1 (fun _ _ _ => rfl) dX7_fail_14 ?_
      replace hw := hw.2
      refine r_putI C fp_RX7_52_2 hw.1 rfl dX7_fail_17 ?_
      replace hw := hw.2
      refine r_toph fun hv2 ehv2 => ?_
      replace hw := hw hv2 ehv2
      exact r_vret C hr dX7_fail_20 hw
  · refine r_aload_n C dX7_fail_0 0 rfl ?_
    refine r_getI C fl_RX7_49_3 hw.1 (fun _ _ _ => rfl) dX7_fail_1 ?_
    replace hw := hw.2
    refine r_if_ne C dX7_fail_4 20 (by decide) (fun hc => ?_) (fun hc => ?_)
    · replace hw := hw.1 hc
      exact r_vret C hr dX7_fail_20 hw
    · replace hw := hw.2 hc
      refine r_aload_n C dX7_fail_7 0 rfl ?_
      refine r_iload_n C dX7_fail_8 1 rfl ?_
      refine r_putI C fp_RX7_49_3 hw.1 rfl dX7_fail_9 ?_
      replace hw := hw.2
      refine r_toph fun hv1 ehv1 => ?_
      replace hw := hw hv1 ehv1
      refine r_aload_n C dX7_fail_12 0 rfl ?_
      refine r_aload_n C dX7_fail_13 0 rfl ?_
      refine r_getI C fl_RX7_46_3 hw.1 (fun _ _ _ => rfl) dX7_fail_14 ?_
      replace hw := hw.2
      refine r_putI C fp_RX7_52_3 hw.1 rfl dX7_fail_17 ?_
      replace hw := hw.2
      refine r_toph fun hv2 ehv2 => ?_
      replace hw := hw hv2 ehv2
      exact r_vret C hr dX7_fail_20 hw
