theorem yl_X1_leastCut : YL yX1_leastCut cX1_leastCut 8 (some .int) 2 := ⟨(gm6 (List.mem_of_getElem? (i := 53) rfl) rfl), (gm1 (List.mem_of_getElem? (i := 8) rfl) rfl), by decide, by decide, by decide +kernel⟩
theorem fl_RX11_316_1 : FL RX11 316 1 14 := ⟨RX1, RX1, TX1, 16, ci1, by decide, (gm1 (List.mem_of_getElem? (i := 208) rfl) rfl), Or.inl rfl⟩
theorem fl_RX11_34_10 : FL RX11 34 10 6 := ⟨RX11, RX11, TX11, 15, ci10, by decide, (gm3 (List.mem_of_getElem? (i := 51) rfl) rfl), Or.inl rfl⟩
theorem nl_RX11_27 : NL RX11 27 5 := ⟨RX5, TX5, 5, ci5, (gm2 (List.mem_of_getElem? (i := 101) rfl) rfl), (gm2 (List.mem_of_getElem? (i := 102) rfl) rfl), (gm1 (List.mem_of_getElem? (i := 13) rfl) rfl), by decide⟩
theorem yl_X5_init : YL yX5_init cX5_init 1 none 0 := ⟨(gm2 (List.mem_of_getElem? (i := 105) rfl) rfl), (gm1 (List.mem_of_getElem? (i := 13) rfl) rfl), by decide, by decide, by decide +kernel⟩
theorem yl_X5_copy : YL yX5_copy cX5_copy 2 none 1 := ⟨(gm6 (List.mem_of_getElem? (i := 73) rfl) rfl), (gm1 (List.mem_of_getElem? (i := 13) rfl) rfl), by decide, by decide, by decide +kernel⟩
theorem fl_RX11_329_1 : FL RX11 329 1 0 := ⟨RX1, RX1, TX1, 16, ci1, by decide, (gm1 (List.mem_of_getElem? (i := 166) rfl) rfl), Or.inl rfl⟩
theorem fl_RX11_332_1 : FL RX11 332 1 1 := ⟨RX1, RX1, TX1, 16, ci1, by decide, (gm1 (List.mem_of_getElem? (i := 169) rfl) rfl), Or.inl rfl⟩
theorem fl_RX11_335_1 : FL RX11 335 1 11 := ⟨RX1, RX1, TX1, 16, ci1, by decide, (gm1 (List.mem_of_getElem? (i := 198) rfl) rfl), Or.inl rfl⟩
theorem fl_RX11_338_4 : FL RX11 338 4 0 := ⟨RX4, RX4, TX4, 6, ci4, by decide, (gm1 (List.mem_of_getElem? (i := 108) rfl) rfl), Or.inl rfl⟩
theorem fl_RX11_341_1 : FL RX11 341 1 15 := ⟨RX1, RX1, TX1, 16, ci1, by decide, (gm1 (List.mem_of_getElem? (i := 214) rfl) rfl), Or.inl rfl⟩
theorem fl_RX11_345_9 : FL RX11 345 9 0 := ⟨RX10, RX10, TX10, 5, ci9, by decide, (gm1 (List.mem_of_getElem? (i := 145) rfl) rfl), Or.inl rfl⟩
theorem fl_RX12_1_11 : FL RX12 1 11 0 := ⟨RX12, RX12, TX12, 53, ci11, by decide, (gm6 (List.mem_of_getElem? (i := 222) rfl) rfl), Or.inl rfl⟩
theorem fp_RX12_1_11 : FP RX12 1 11 0 := ⟨RX12, RX12, TX12, 53, ci11, by decide, (gm6 (List.mem_of_getElem? (i := 222) rfl) rfl), Or.inl rfl, rfl⟩
theorem fl_RX12_14_11 : FL RX12 14 11 1 := ⟨RX12, RX12, TX12, 53, ci11, by decide, (gm6 (List.mem_of_getElem? (i := 223) rfl) rfl), Or.inl rfl⟩
theorem fl_RX12_7_11 : FL RX12 7 11 2 := ⟨RX12, RX12, TX12, 53, ci11, by decide, (gm6 (List.mem_of_getElem? (i := 224) rfl) rfl), Or.inl rfl⟩
theorem fp_RX12_7_11 : FP RX12 7 11 2 := ⟨RX12, RX12, TX12, 53, ci11, by decide, (gm6 (List.mem_of_getElem? (i := 224) rfl) rfl), Or.inl rfl, rfl⟩
theorem yl_X12_four : YL yX12_four cX12_four 3 none 1 := ⟨(gm6 (List.mem_of_getElem? (i := 189) rfl) rfl), (gm1 (List.mem_of_getElem? (i := 18) rfl) rfl), by decide, by decide, by decide +kernel⟩
theorem fp_RX12_18_11 : FP RX12 18 11 3 := ⟨RX12, RX12, TX12, 53, ci11, by decide, (gm6 (List.mem_of_getElem? (i := 225) rfl) rfl), Or.inl rfl, rfl⟩
theorem fp_RX12_21_11 : FP RX12 21 11 4 := ⟨RX12, RX12, TX12, 53, ci11, by decide, (gm6 (List.mem_of_getElem? (i := 226) rfl) rfl), Or.inl rfl, rfl⟩
theorem fp_RX12_24_11 : FP RX12 24 11 5 := ⟨RX12, RX12, TX12, 53, ci11, by decide, (gm6 (List.mem_of_getElem? (i := 227) rfl) rfl), Or.inl rfl, rfl⟩
theorem fl_RX12_37_11 : FL RX12 37 11 7 := ⟨RX12, RX12, TX12, 53, ci11, by decide, (gm6 (List.mem_of_getElem? (i := 229) rfl) rfl), Or.inl rfl⟩
theorem ff_RX12_14_11 : FF RX12 14 11 1 := ⟨RX12, RX12, TX12, 53, ci11, by decide, (gm6 (List.mem_of_getElem? (i := 223) rfl) rfl), Or.inl rfl, rfl, rfl⟩
theorem ff_RX12_33_11 : FF RX12 33 11 6 := ⟨RX12, RX12, TX12, 53, ci11, by decide, (gm6 (List.mem_of_getElem? (i := 228) rfl) rfl), Or.inl rfl, rfl, rfl⟩
theorem ff_RX12_37_11 : FF RX12 37 11 7 := ⟨RX12, RX12, TX12, 53, ci11, by decide, (gm6 (List.mem_of_getElem? (i := 229) rfl) rfl), Or.inl rfl, rfl, rfl⟩
theorem ff_RX12_40_11 : FF RX12 40 11 8 := ⟨RX12, RX12, TX12, 53, ci11, by decide, (gm6 (List.mem_of_getElem? (i := 230) rfl) rfl), Or.inl rfl, rfl, rfl⟩
theorem ff_RX12_43_11 : FF RX12 43 11 9 := ⟨RX12, RX12, TX12, 53, ci11, by decide, (gm6 (List.mem_of_getElem? (i := 231) rfl) rfl), Or.inl rfl, rfl, rfl⟩
theorem ff_RX12_47_11 : FF RX12 47 11 10 := ⟨RX12, RX12, TX12, 53, ci11, by decide, (gm6 (List.mem_of_getElem? (i := 232) rfl) rfl), Or.inl rfl, rfl, rfl⟩
theorem ff_RX12_50_11 : FF RX12 50 11 24 := ⟨RX12, RX12, TX12, 53, ci11, by decide, (gm7 (List.mem_of_getElem? (i := 6) rfl) rfl), Or.inl rfl, rfl, rfl⟩
theorem ff_RX12_53_11 : FF RX12 53 11 25 := ⟨RX12, RX12, TX12, 53, ci11, by decide, (gm7 (List.mem_of_getElem? (i := 7) rfl) rfl), Or.inl rfl, rfl, rfl⟩
theorem ff_RX12_56_11 : FF RX12 56 11 26 := ⟨RX12, RX12, TX12, 53, ci11, by decide, (gm7 (List.mem_of_getElem? (i := 8) rfl) rfl), Or.inl rfl, rfl, rfl⟩
theorem ff_RX12_59_11 : FF RX12 59 11 32 := ⟨RX12, RX12, TX12, 53, ci11, by decide, (gm7 (List.mem_of_getElem? (i := 14) rfl) rfl), Or.inl rfl, rfl, rfl⟩
theorem ff_RX12_62_11 : FF RX12 62 11 33 := ⟨RX12, RX12, TX12, 53, ci11, by decide, (gm7 (List.mem_of_getElem? (i := 15) rfl) rfl), Or.inl rfl, rfl, rfl⟩
theorem fp_RX12_65_11 : FP RX12 65 11 34 := ⟨RX12, RX12, TX12, 53, ci11, by decide, (gm7 (List.mem_of_getElem? (i := 16) rfl) rfl), Or.inl rfl, rfl⟩
theorem ff_RX12_69_11 : FF RX12 69 11 35 := ⟨RX12, RX12, TX12, 53, ci11, by decide, (gm7 (List.mem_of_getElem? (i := 17) rfl) rfl), Or.inl rfl, rfl, rfl⟩
theorem ff_RX12_72_11 : FF RX12 72 11 36 := ⟨RX12, RX12, TX12, 53, ci11, by decide, (gm7 (List.mem_of_getElem? (i := 18) rfl) rfl), Or.inl rfl, rfl, rfl⟩
theorem ff_RX12_75_11 : FF RX12 75 11 37 := ⟨RX12, RX12, TX12, 53, ci11, by decide, (gm7 (List.mem_of_getElem? (i := 19) rfl) rfl), Or.inl rfl, rfl, rfl⟩
theorem ff_RX12_78_11 : FF RX12 78 11 38 := ⟨RX12, RX12, TX12, 53, ci11, by decide, (gm7 (List.mem_of_getElem? (i := 20) rfl) rfl), Or.inl rfl, rfl, rfl⟩
theorem ff_RX12_81_11 : FF RX12 81 11 39 := ⟨RX12, RX12, TX12, 53, ci11, by decide, (gm7 (List.mem_of_getElem? (i := 21) rfl) rfl), Or.inl rfl, rfl, rfl⟩
theorem ff_RX12_84_11 : FF RX12 84 11 42 := ⟨RX12, RX12, TX12, 53, ci11, by decide, (gm7 (List.mem_of_getElem? (i := 24) rfl) rfl), Or.inl rfl, rfl, rfl⟩
theorem ff_RX12_87_11 : FF RX12 87 11 43 := ⟨RX12, RX12, TX12, 53, ci11, by decide, (gm7 (List.mem_of_getElem? (i := 25) rfl) rfl), Or.inl rfl, rfl, rfl⟩
theorem ff_RX12_90_11 : FF RX12 90 11 44 := ⟨RX12, RX12, TX12, 53, ci11, by decide, (gm7 (List.mem_of_getElem? (i := 26) rfl) rfl), Or.inl rfl, rfl, rfl⟩
theorem ff_RX12_93_11 : FF RX12 93 11 45 := ⟨RX12, RX12, TX12, 53, ci11, by decide, (gm7 (List.mem_of_getElem? (i := 27) rfl) rfl), Or.inl rfl, rfl, rfl⟩
theorem ff_RX12_96_11 : FF RX12 96 11 46 := ⟨RX12, RX12, TX12, 53, ci11, by decide, (gm7 (List.mem_of_getElem? (i := 28) rfl) rfl), Or.inl rfl, rfl, rfl⟩
theorem ff_RX12_99_11 : FF RX12 99 11 47 := ⟨RX12, RX12, TX12, 53, ci11, by decide, (gm7 (List.mem_of_getElem? (i := 29) rfl) rfl), Or.inl rfl, rfl, rfl⟩
theorem fp_RX12_102_11 : FP RX12 102 11 48 := ⟨RX12, RX12, TX12, 53, ci11, by decide, (gm7 (List.mem_of_getElem? (i := 30) rfl) rfl), Or.inl rfl, rfl⟩
theorem ff_RX12_105_11 : FF RX12 105 11 50 := ⟨RX12, RX12, TX12, 53, ci11, by decide, (gm7 (List.mem_of_getElem? (i := 32) rfl) rfl), Or.inl rfl, rfl, rfl⟩
theorem ff_RX12_108_11 : FF RX12 108 11 51 := ⟨RX12, RX12, TX12, 53, ci11, by decide, (gm7 (List.mem_of_getElem? (i := 33) rfl) rfl), Or.inl rfl, rfl, rfl⟩
theorem ff_RX12_111_11 : FF RX12 111 11 52 := ⟨RX12, RX12, TX12, 53, ci11, by decide, (gm7 (List.mem_of_getElem? (i := 34) rfl) rfl), Or.inl rfl, rfl, rfl⟩
theorem fl_RX12_47_11 : FL RX12 47 11 10 := ⟨RX12, RX12, TX12, 53, ci11, by decide, (gm6 (List.mem_of_getElem? (i := 232) rfl) rfl), Or.inl rfl⟩
theorem yl_X12_plainLagoon : YL yX12_plainLagoon cX12_plainLagoon 2 none 0 := ⟨(gm6 (List.mem_of_getElem? (i := 221) rfl) rfl), (gm1 (List.mem_of_getElem? (i := 18) rfl) rfl), by decide, by decide, by decide +kernel⟩
theorem fl_RX12_33_11 : FL RX12 33 11 6 := ⟨RX12, RX12, TX12, 53, ci11, by decide, (gm6 (List.mem_of_getElem? (i := 228) rfl) rfl), Or.inl rfl⟩
theorem fl_RX12_21_11 : FL RX12 21 11 4 := ⟨RX12, RX12, TX12, 53, ci11, by decide, (gm6 (List.mem_of_getElem? (i := 226) rfl) rfl), Or.inl rfl⟩
theorem fl_RX12_18_11 : FL RX12 18 11 3 := ⟨RX12, RX12, TX12, 53, ci11, by decide, (gm6 (List.mem_of_getElem? (i := 225) rfl) rfl), Or.inl rfl⟩
theorem yl_X12_peek : YL yX12_peek cX12_peek 1 (some .int) 0 := ⟨(gm7 (List.mem_of_getElem? (i := 158) rfl) rfl), (gm1 (List.mem_of_getElem? (i := 18) rfl) rfl), by decide, by decide, by decide +kernel⟩
theorem fp_RX12_158_11 : FP RX12 158 11 12 := ⟨RX12, RX12, TX12, 53, ci11, by decide, (gm6 (List.mem_of_getElem? (i := 234) rfl) rfl), Or.inl rfl, rfl⟩
theorem fp_RX12_161_11 : FP RX12 161 11 13 := ⟨RX12, RX12, TX12, 53, ci11, by decide, (gm6 (List.mem_of_getElem? (i := 235) rfl) rfl), Or.inl rfl, rfl⟩
theorem fl_RX12_24_11 : FL RX12 24 11 5 := ⟨RX12, RX12, TX12, 53, ci11, by decide, (gm6 (List.mem_of_getElem? (i := 227) rfl) rfl), Or.inl rfl⟩
theorem fp_RX12_164_11 : FP RX12 164 11 11 := ⟨RX12, RX12, TX12, 53, ci11, by decide, (gm6 (List.mem_of_getElem? (i := 233) rfl) rfl), Or.inl rfl, rfl⟩
theorem yl_X12_isSmall : YL yX12_isSmall cX12_isSmall 1 (some .boolean) 1 := ⟨(gm7 (List.mem_of_getElem? (i := 161) rfl) rfl), (gm1 (List.mem_of_getElem? (i := 18) rfl) rfl), by decide, by decide, by decide +kernel⟩
theorem yl_X12_isDigit : YL yX12_isDigit cX12_isDigit 1 (some .boolean) 1 := ⟨(gm7 (List.mem_of_getElem? (i := 164) rfl) rfl), (gm1 (List.mem_of_getElem? (i := 18) rfl) rfl), by decide, by decide, by decide +kernel⟩
theorem fp_RX12_174_11 : FP RX12 174 11 14 := ⟨RX12, RX12, TX12, 53, ci11, by decide, (gm6 (List.mem_of_getElem? (i := 236) rfl) rfl), Or.inl rfl, rfl⟩
theorem fp_RX12_177_11 : FP RX12 177 11 17 := ⟨RX12, RX12, TX12, 53, ci11, by decide, (gm6 (List.mem_of_getElem? (i := 239) rfl) rfl), Or.inl rfl, rfl⟩
theorem fl_RX12_161_11 : FL RX12 161 11 13 := ⟨RX12, RX12, TX12, 53, ci11, by decide, (gm6 (List.mem_of_getElem? (i := 235) rfl) rfl), Or.inl rfl⟩
theorem fl_RX12_177_11 : FL RX12 177 11 17 := ⟨RX12, RX12, TX12, 53, ci11, by decide, (gm6 (List.mem_of_getElem? (i := 239) rfl) rfl), Or.inl rfl⟩
theorem fl_RX12_174_11 : FL RX12 174 11 14 := ⟨RX12, RX12, TX12, 53, ci11, by decide, (gm6 (List.mem_of_getElem? (i := 236) rfl) rfl), Or.inl rfl⟩
theorem fp_RX12_181_11 : FP RX12 181 11 15 := ⟨RX12, RX12, TX12, 53, ci11, by decide, (gm6 (List.mem_of_getElem? (i := 237) rfl) rfl), Or.inl rfl, rfl⟩
theorem fl_RX12_158_11 : FL RX12 158 11 12 := ⟨RX12, RX12, TX12, 53, ci11, by decide, (gm6 (List.mem_of_getElem? (i := 234) rfl) rfl), Or.inl rfl⟩
theorem fp_RX12_184_11 : FP RX12 184 11 16 := ⟨RX12, RX12, TX12, 53, ci11, by decide, (gm6 (List.mem_of_getElem? (i := 238) rfl) rfl), Or.inl rfl, rfl⟩
theorem fl_RX12_164_11 : FL RX12 164 11 11 := ⟨RX12, RX12, TX12, 53, ci11, by decide, (gm6 (List.mem_of_getElem? (i := 233) rfl) rfl), Or.inl rfl⟩
theorem yl_X12_isSign : YL yX12_isSign cX12_isSign 2 (some .boolean) 1 := ⟨(gm8 (List.mem_of_getElem? (i := 25) rfl) rfl), (gm1 (List.mem_of_getElem? (i := 18) rfl) rfl), by decide, by decide, by decide +kernel⟩
theorem yl_X12_next : YL yX12_next cX12_next 4 none 0 := ⟨(gm7 (List.mem_of_getElem? (i := 154) rfl) rfl), (gm1 (List.mem_of_getElem? (i := 18) rfl) rfl), by decide, by decide, by decide +kernel⟩
theorem yl_X12_bad : YL yX12_bad cX12_bad 2 (some .boolean) 1 := ⟨(gm7 (List.mem_of_getElem? (i := 180) rfl) rfl), (gm1 (List.mem_of_getElem? (i := 18) rfl) rfl), by decide, by decide, by decide +kernel⟩
theorem yl_X12_isIn : YL yX12_isIn cX12_isIn 3 (some .boolean) 3 := ⟨(gm7 (List.mem_of_getElem? (i := 191) rfl) rfl), (gm1 (List.mem_of_getElem? (i := 18) rfl) rfl), by decide, by decide, by decide +kernel⟩
theorem fp_RX12_200_11 : FP RX12 200 11 18 := ⟨RX12, RX12, TX12, 53, ci11, by decide, (gm7 (List.mem_of_getElem? (i := 0) rfl) rfl), Or.inl rfl, rfl⟩
theorem fl_RX12_43_11 : FL RX12 43 11 9 := ⟨RX12, RX12, TX12, 53, ci11, by decide, (gm6 (List.mem_of_getElem? (i := 231) rfl) rfl), Or.inl rfl⟩
theorem yl_X12_isName : YL yX12_isName cX12_isName 3 (some .boolean) 0 := ⟨(gm7 (List.mem_of_getElem? (i := 206) rfl) rfl), (gm1 (List.mem_of_getElem? (i := 18) rfl) rfl), by decide, by decide, by decide +kernel⟩
theorem yl_X12_find : YL yX12_find cX12_find 4 (some .int) 2 := ⟨(gm7 (List.mem_of_getElem? (i := 210) rfl) rfl), (gm1 (List.mem_of_getElem? (i := 18) rfl) rfl), by decide, by decide, by decide +kernel⟩
theorem fl_RX12_200_11 : FL RX12 200 11 18 := ⟨RX12, RX12, TX12, 53, ci11, by decide, (gm7 (List.mem_of_getElem? (i := 0) rfl) rfl), Or.inl rfl⟩
theorem yl_X12_takes : YL yX12_takes cX12_takes 3 (some .boolean) 2 := ⟨(gm7 (List.mem_of_getElem? (i := 198) rfl) rfl), (gm1 (List.mem_of_getElem? (i := 18) rfl) rfl), by decide, by decide, by decide +kernel⟩
theorem fp_RX12_215_11 : FP RX12 215 11 19 := ⟨RX12, RX12, TX12, 53, ci11, by decide, (gm7 (List.mem_of_getElem? (i := 1) rfl) rfl), Or.inl rfl, rfl⟩
theorem fp_RX12_218_11 : FP RX12 218 11 20 := ⟨RX12, RX12, TX12, 53, ci11, by decide, (gm7 (List.mem_of_getElem? (i := 2) rfl) rfl), Or.inl rfl, rfl⟩
theorem yl_X12_octet : YL yX12_octet cX12_octet 2 (some .int) 1 := ⟨(gm7 (List.mem_of_getElem? (i := 184) rfl) rfl), (gm1 (List.mem_of_getElem? (i := 18) rfl) rfl), by decide, by decide, by decide +kernel⟩
theorem fl_RX12_253_11 : FL RX12 253 11 22 := ⟨RX12, RX12, TX12, 53, ci11, by decide, (gm7 (List.mem_of_getElem? (i := 4) rfl) rfl), Or.inl rfl⟩
theorem yl_X12_has : YL yX12_has cX12_has 2 (some .boolean) 2 := ⟨(gm7 (List.mem_of_getElem? (i := 194) rfl) rfl), (gm1 (List.mem_of_getElem? (i := 18) rfl) rfl), by decide, by decide, by decide +kernel⟩
theorem fp_RX12_253_11 : FP RX12 253 11 22 := ⟨RX12, RX12, TX12, 53, ci11, by decide, (gm7 (List.mem_of_getElem? (i := 4) rfl) rfl), Or.inl rfl, rfl⟩
theorem dX11_could_0 : decode cX11_could 0 = .ok (.aload_n 0, 1) := by decide +kernel
theorem dX11_could_1 : decode cX11_could 1 = .ok (.iload_n 1, 1) := by decide +kernel
theorem dX11_could_2 : decode cX11_could 2 = .ok (.iload_n 2, 1) := by decide +kernel
theorem dX11_could_3 : decode cX11_could 3 = .ok (.iload_n 3, 1) := by decide +kernel
theorem dX11_could_4 : decode cX11_could 4 = .ok (.iload 4, 2) := by decide +kernel
theorem dX11_could_6 : decode cX11_could 6 = .ok (.invokevirtual 270, 3) := by decide +kernel
theorem dX11_could_9 : decode cX11_could 9 = .ok (.istore 5, 2) := by decide +kernel
theorem dX11_could_11 : decode cX11_could 11 = .ok (.iload 5, 2) := by decide +kernel
theorem dX11_could_13 : decode cX11_could 13 = .ok (.ifCond .ge 5, 3) := by decide +kernel
theorem dX11_could_16 : decode cX11_could 16 = .ok (.iconst (-1), 1) := by decide +kernel
theorem dX11_could_17 : decode cX11_could 17 = .ok (.ireturn, 1) := by decide +kernel
theorem dX11_could_18 : decode cX11_could 18 = .ok (.aload_n 0, 1) := by decide +kernel
theorem dX11_could_19 : decode cX11_could 19 = .ok (.getfield 30, 3) := by decide +kernel
theorem dX11_could_22 : decode cX11_could 22 = .ok (.getfield 40, 3) := by decide +kernel
theorem dX11_could_25 : decode cX11_could 25 = .ok (.iload_n 1, 1) := by decide +kernel
theorem dX11_could_26 : decode cX11_could 26 = .ok (.iload 5, 2) := by decide +kernel
theorem dX11_could_28 : decode cX11_could 28 = .ok (.invokevirtual 298, 3) := by decide +kernel
theorem dX11_could_31 : decode cX11_could 31 = .ok (.lstore 6, 2) := by decide +kernel
theorem dX11_could_33 : decode cX11_could 33 = .ok (.lload 6, 2) := by decide +kernel
theorem dX11_could_35 : decode cX11_could 35 = .ok (.aload_n 0, 1) := by decide +kernel
theorem dX11_could_36 : decode cX11_could 36 = .ok (.getfield 30, 3) := by decide +kernel
theorem dX11_could_39 : decode cX11_could 39 = .ok (.getfield 132, 3) := by decide +kernel
theorem dX11_could_42 : decode cX11_could 42 = .ok (.iload_n 1, 1) := by decide +kernel
theorem dX11_could_43 : decode cX11_could 43 = .ok (.invokevirtual 302, 3) := by decide +kernel
theorem dX11_could_46 : decode cX11_could 46 = .ok (.land, 1) := by decide +kernel
theorem dX11_could_47 : decode cX11_could 47 = .ok (.lconst 0, 1) := by decide +kernel
theorem dX11_could_48 : decode cX11_could 48 = .ok (.lcmp, 1) := by decide +kernel
theorem dX11_could_49 : decode cX11_could 49 = .ok (.ifCond .ne 19, 3) := by decide +kernel
theorem dX11_could_52 : decode cX11_could 52 = .ok (.aload_n 0, 1) := by decide +kernel
theorem dX11_could_53 : decode cX11_could 53 = .ok (.getfield 30, 3) := by decide +kernel
theorem dX11_could_56 : decode cX11_could 56 = .ok (.getfield 132, 3) := by decide +kernel
theorem dX11_could_59 : decode cX11_could 59 = .ok (.iload_n 1, 1) := by decide +kernel
theorem dX11_could_60 : decode cX11_could 60 = .ok (.iload 5, 2) := by decide +kernel
theorem dX11_could_62 : decode cX11_could 62 = .ok (.invokevirtual 306, 3) := by decide +kernel
theorem dX11_could_65 : decode cX11_could 65 = .ok (.ifCond .ne 5, 3) := by decide +kernel
theorem dX11_could_68 : decode cX11_could 68 = .ok (.iconst 0, 1) := by decide +kernel
theorem dX11_could_69 : decode cX11_could 69 = .ok (.ireturn, 1) := by decide +kernel
theorem dX11_could_70 : decode cX11_could 70 = .ok (.aload_n 0, 1) := by decide +kernel
theorem dX11_could_71 : decode cX11_could 71 = .ok (.getfield 30, 3) := by decide +kernel
theorem dX11_could_74 : decode cX11_could 74 = .ok (.getfield 40, 3) := by decide +kernel
theorem dX11_could_77 : decode cX11_could 77 = .ok (.iload_n 1, 1) := by decide +kernel
theorem dX11_could_78 : decode cX11_could 78 = .ok (.lload 6, 2) := by decide +kernel
theorem dX11_could_80 : decode cX11_could 80 = .ok (.invokevirtual 174, 3) := by decide +kernel
theorem dX11_could_83 : decode cX11_could 83 = .ok (.ireturn, 1) := by decide +kernel
def wp_X11_could (h : AH) (a0 : Nat) (x1 : Int32) (x2 : Int32) (x3 : Int32) (x4 : Int32) (post : AH → Int32 → Prop) : Prop := (ob h a0 10) ∧ wp_X11_spotFor h a0 x1 x2 x3 x4 (fun hv1 iv2 => (0 ≤ iv2 → ((ob hv1 a0 10) ∧ (∃ rv3, aP hv1 a0 5 = some rv3 ∧ ((ob hv1 rv3 5) ∧ (∃ rv4, aP hv1 rv3 0 = some rv4 ∧ ((ob hv1 rv4 1) ∧ wp_X1_coverAt hv1 rv4 x1 iv2 (fun hv5 jv6 => (ob hv5 a0 10) ∧ (∃ rv7, aP hv5 a0 5 = some rv7 ∧ ((ob hv5 rv7 5) ∧ (∃ rv8, aP hv5 rv7 1 = some rv8 ∧ ((ob hv5 rv8 7) ∧ wp_X8_coveredBut hv5 rv8 x1 (fun hv9 jv10 => (¬ (lg_cmp (jv6 &&& jv10) 0) = 0 → (post hv9 0)) ∧ ((lg_cmp (jv6 &&& jv10) 0) = 0 → ((ob hv9 a0 10) ∧ (∃ rv11, aP hv9 a0 5 = some rv11 ∧ ((ob hv9 rv11 5) ∧ (∃ rv12, aP hv9 rv11 1 = some rv12 ∧ ((ob hv9 rv12 7) ∧ wp_X8_ropesReach hv9 rv12 x1 iv2 (fun hv13 iv14 => (¬ iv14 = 0 → ((ob hv13 a0 10) ∧ (∃ rv15, aP hv13 a0 5 = some rv15 ∧ ((ob hv13 rv15 5) ∧ (∃ rv16, aP hv13 rv15 0 = some rv16 ∧ ((ob hv13 rv16 1) ∧ wp_X1_hoursCarrying hv13 rv16 x1 jv6 (fun hv17 iv18 => post hv17 iv18))))))) ∧ (iv14 = 0 → (post hv13 0))))))))))))))))))))) ∧ (¬ 0 ≤ iv2 → (post hv1 (-1))))
set_option maxRecDepth 100000 in
theorem c_X11_could (G : GG) (h : AH) (a0 : Nat) (x1 : Int32) (x2 : Int32) (x3 : Int32) (x4 : Int32) (post : AH → Int32 → Prop) (hw : wp_X11_could h a0 x1 x2 x3 x4 post) : MC G yX11_could cX11_could 8 (some .int) 3 77 h [.ref (G.1 + a0), .int x1, .int x2, .int x3, .int x4] (pI post) := by
  refine MC.of (lv := [(0, .ref (G.1 + a0)), (1, .int x1), (2, .int x2), (3, .int x3), (4, .int x4)]) (by decide) (Nat.le_of_ble_eq_true rfl) rfl fun p l e R s m args below meth c C hr hnm => ?_
  unfold wp_X11_could at hw
  refine r_aload_n C dX11_could_0 0 rfl ?_
  refine r_iload_n C dX11_could_1 1 rfl ?_
  refine r_iload_n C dX11_could_2 2 rfl ?_
  refine r_iload_n C dX11_could_3 3 rfl ?_
  refine r_iload C dX11_could_4 4 rfl ?_
  have hob := hw.1
  replace hw := hw.2
  refine r_callV C (As := [.int x1, .int x2, .int x3, .int x4]) (rest := []) (c_X11_spotFor G h a0 x1 x2 x3 x4 _ hw) yl_X11_spotFor (gm5 (List.mem_of_getElem? (i := 191) rfl) rfl) (gm5 (List.mem_of_getElem? (i := 193) rfl) rfl) (ci := 10) rfl (by decide) (gsel (List.mem_of_getElem? (i := 33) rfl)) hob (by decide) rfl (Nat.le_of_ble_eq_true rfl) dX11_could_6 rfl (kI fun hv1 iv2 hw => ?_)
  refine r_istore C dX11_could_9 [(5, .int iv2), (0, .ref (G.1 + a0)), (1, .int x1), (2, .int x2), (3, .int x3), (4, .int x4)] (by decide) rfl ?_
  refine r_iload C dX11_could_11 0 rfl ?_
  refine r_if_ge C dX11_could_13 18 (by decide) (fun hc => ?_) (fun hc => ?_)
  · replace hw := hw.1 hc
    refine r_aload_n C dX11_could_18 1 rfl ?_
    have hob := hw.1
    obtain ⟨rv3, hp, hw⟩ := hw.2
    refine r_getP C fl_RX11_30_10 hob hp (fun _ _ _ => rfl) dX11_could_19 ?_
    have hob := hw.1
    obtain ⟨rv4, hp, hw⟩ := hw.2
    refine r_getP C fl_RX11_40_5 hob hp (fun _ _ _ => rfl) dX11_could_22 ?_
    refine r_iload_n C dX11_could_25 2 rfl ?_
    refine r_iload C dX11_could_26 0 rfl ?_
    have hob := hw.1
    replace hw := hw.2
    refine r_callV C (As := [.int x1, .int iv2]) (rest := []) (c_X1_coverAt G hv1 rv4 x1 iv2 _ hw) yl_X1_coverAt (gm6 (List.mem_of_getElem? (i := 31) rfl) rfl) (gm3 (List.mem_of_getElem? (i := 223) rfl) rfl) (ci := 1) rfl (by decide) (gm3 (List.mem_of_getElem? (i := 224) rfl) rfl) hob (by decide) rfl (Nat.le_of_ble_eq_true rfl) dX11_could_28 rfl (kJ fun hv5 jv6 hw => ?_)
    refine r_lstore C dX11_could_31 [(6, .long jv6), (5, .int iv2), (0, .ref (G.1 + a0)), (1, .int x1), (2, .int x2), (3, .int x3), (4, .int x4)] (by decide) rfl ?_
    refine r_lload C dX11_could_33 0 rfl ?_
    refine r_aload_n C dX11_could_35 2 rfl ?_
    have hob := hw.1
    obtain ⟨rv7, hp, hw⟩ := hw.2
    refine r_getP C fl_RX11_30_10 hob hp (fun _ _ _ => rfl) dX11_could_36 ?_
    have hob := hw.1
    obtain ⟨rv8, hp, hw⟩ := hw.2
    refine r_getP C fl_RX11_132_5 hob hp (fun _ _ _ => rfl) dX11_could_39 ?_
    refine r_iload_n C dX11_could_42 3 rfl ?_
    have hob := hw.1
    replace hw := hw.2
    refine r_callV C (As := [.int x1]) (rest := [.long jv6]) (c_X8_coveredBut G hv5 rv8 x1 _ hw) yl_X8_coveredBut (gm6 (List.mem_of_getElem? (i := 32) rfl) rfl) (gm4 (List.mem_of_getElem? (i := 181) rfl) rfl) (ci := 7) rfl (by decide) (gm4 (List.mem_of_getElem? (i := 182) rfl) rfl) hob (by decide) rfl (Nat.le_of_ble_eq_true rfl) dX11_could_43 rfl (kJ fun hv9 jv10 hw => ?_)
    refine r_land C dX11_could_46 ?_
    refine r_lconst (v := 0) C dX11_could_47 (by decide) ?_
    refine r_lcmp C dX11_could_48 ?_
    refine r_if_ne C dX11_could_49 68 (by decide) (fun hc => ?_) (fun hc => ?_)
    · replace hw := hw.1 hc
      refine r_iconst (v := 0) C dX11_could_68 (by decide) ?_
      exact r_iret C hr dX11_could_69 hw
    · replace hw := hw.2 hc
      refine r_aload_n C dX11_could_52 2 rfl ?_
      have hob := hw.1
      obtain ⟨rv11, hp, hw⟩ := hw.2
      refine r_getP C fl_RX11_30_10 hob hp (fun _ _ _ => rfl) dX11_could_53 ?_
      have hob := hw.1
      obtain ⟨rv12, hp, hw⟩ := hw.2
      refine r_getP C fl_RX11_132_5 hob hp (fun _ _ _ => rfl) dX11_could_56 ?_
      refine r_iload_n C dX11_could_59 3 rfl ?_
      refine r_iload C dX11_could_60 1 rfl ?_
      have hob := hw.1
      replace hw := hw.2
      refine r_callV C (As := [.int x1, .int iv2]) (rest := []) (c_X8_ropesReach G hv9 rv12 x1 iv2 _ hw) yl_X8_ropesReach (gm6 (List.mem_of_getElem? (i := 33) rfl) rfl) (gm4 (List.mem_of_getElem? (i := 185) rfl) rfl) (ci := 7) rfl (by decide) (gm4 (List.mem_of_getElem? (i := 186) rfl) rfl) hob (by decide) rfl (Nat.le_of_ble_eq_true rfl) dX11_could_62 rfl (kI fun hv13 iv14 hw => ?_)
      refine r_if_ne C dX11_could_65 70 (by decide) (fun hc => ?_) (fun hc => ?_)
      · replace hw := hw.1 hc
        refine r_aload_n C dX11_could_70 2 rfl ?_
        have hob := hw.1
        obtain ⟨rv15, hp, hw⟩ := hw.2
        refine r_getP C fl_RX11_30_10 hob hp (fun _ _ _ => rfl) dX11_could_71 ?_
        have hob := hw.1
        obtain ⟨rv16, hp, hw⟩ := hw.2
        refine r_getP C fl_RX11_40_5 hob hp (fun _ _ _ => rfl) dX11_could_74 ?_
        refine r_iload_n C dX11_could_77 3 rfl ?_
        refine r_lload C dX11_could_78 0 rfl ?_
        have hob := hw.1
        replace hw := hw.2
        refine r_callV C (As := [.int x1, .long jv6]) (rest := []) (c_X1_hoursCarrying G hv13 rv16 x1 jv6 _ hw) yl_X1_hoursCarrying (gm4 (List.mem_of_getElem? (i := 149) rfl) rfl) (gm4 (List.mem_of_getElem? (i := 150) rfl) rfl) (ci := 1) rfl (by decide) (gm4 (List.mem_of_getElem? (i := 151) rfl) rfl) hob (by decide) rfl (Nat.le_of_ble_eq_true rfl) dX11_could_80 rfl (kI fun hv17 iv18 hw => ?_)
        exact r_iret C hr dX11_could_83 hw
      · replace hw := hw.2 hc
        refine r_iconst (v := 0) C dX11_could_68 (by decide) ?_
        exact r_iret C hr dX11_could_69 hw
  · replace hw := hw.2 hc
    refine r_iconst (v := (-1)) C dX11_could_16 (by decide) ?_
    exact r_iret C hr dX11_could_17 hw
theorem dX11_storm_0 : decode cX11_storm 0 = .ok (.iload_n 1, 1) := by decide +kernel
theorem dX11_storm_1 : decode cX11_storm 1 = .ok (.ifCond .lt 9, 3) := by decide +kernel
theorem dX11_storm_4 : decode cX11_storm 4 = .ok (.iload_n 1, 1) := by decide +kernel
theorem dX11_storm_5 : decode cX11_storm 5 = .ok (.bipush 99, 2) := by decide +kernel
theorem dX11_storm_7 : decode cX11_storm 7 = .ok (.if_icmp .le 5, 3) := by decide +kernel
theorem dX11_storm_10 : decode cX11_storm 10 = .ok (.iconst (-1), 1) := by decide +kernel
theorem dX11_storm_11 : decode cX11_storm 11 = .ok (.ireturn, 1) := by decide +kernel
theorem dX11_storm_12 : decode cX11_storm 12 = .ok (.iconst 0, 1) := by decide +kernel
theorem dX11_storm_13 : decode cX11_storm 13 = .ok (.istore_n 2, 1) := by decide +kernel
theorem dX11_storm_14 : decode cX11_storm 14 = .ok (.iconst 0, 1) := by decide +kernel
theorem dX11_storm_15 : decode cX11_storm 15 = .ok (.istore_n 3, 1) := by decide +kernel
theorem dX11_storm_16 : decode cX11_storm 16 = .ok (.iload_n 3, 1) := by decide +kernel
theorem dX11_storm_17 : decode cX11_storm 17 = .ok (.aload_n 0, 1) := by decide +kernel
theorem dX11_storm_18 : decode cX11_storm 18 = .ok (.getfield 30, 3) := by decide +kernel
theorem dX11_storm_21 : decode cX11_storm 21 = .ok (.getfield 40, 3) := by decide +kernel
theorem dX11_storm_24 : decode cX11_storm 24 = .ok (.getfield 147, 3) := by decide +kernel
theorem dX11_storm_27 : decode cX11_storm 27 = .ok (.if_icmp .ge 31, 3) := by decide +kernel
theorem dX11_storm_30 : decode cX11_storm 30 = .ok (.aload_n 0, 1) := by decide +kernel
theorem dX11_storm_31 : decode cX11_storm 31 = .ok (.getfield 30, 3) := by decide +kernel
theorem dX11_storm_34 : decode cX11_storm 34 = .ok (.getfield 40, 3) := by decide +kernel
theorem dX11_storm_37 : decode cX11_storm 37 = .ok (.iload_n 3, 1) := by decide +kernel
theorem dX11_storm_38 : decode cX11_storm 38 = .ok (.iload_n 1, 1) := by decide +kernel
theorem dX11_storm_39 : decode cX11_storm 39 = .ok (.iconst 0, 1) := by decide +kernel
theorem dX11_storm_40 : decode cX11_storm 40 = .ok (.invokevirtual 309, 3) := by decide +kernel
theorem dX11_storm_43 : decode cX11_storm 43 = .ok (.ifCond .eq 9, 3) := by decide +kernel
theorem dX11_storm_46 : decode cX11_storm 46 = .ok (.iload_n 2, 1) := by decide +kernel
theorem dX11_storm_47 : decode cX11_storm 47 = .ok (.iconst 1, 1) := by decide +kernel
theorem dX11_storm_48 : decode cX11_storm 48 = .ok (.iload_n 3, 1) := by decide +kernel
theorem dX11_storm_49 : decode cX11_storm 49 = .ok (.ishl, 1) := by decide +kernel
theorem dX11_storm_50 : decode cX11_storm 50 = .ok (.ior, 1) := by decide +kernel
theorem dX11_storm_51 : decode cX11_storm 51 = .ok (.istore_n 2, 1) := by decide +kernel
theorem dX11_storm_52 : decode cX11_storm 52 = .ok (.iinc 3 1, 3) := by decide +kernel
theorem dX11_storm_55 : decode cX11_storm 55 = .ok (.goto (-39), 3) := by decide +kernel
theorem dX11_storm_58 : decode cX11_storm 58 = .ok (.iload_n 2, 1) := by decide +kernel
theorem dX11_storm_59 : decode cX11_storm 59 = .ok (.ireturn, 1) := by decide +kernel
def wb_X11_storm_52 (K16 : AH → Nat → Int32 → Int32 → Int32 → Prop) (h : AH) (al0 : Nat) (xl1 : Int32) (xl2 : Int32) (xl3 : Int32)  (post : AH → Int32 → Prop) : Prop := ∀ iv1 : Int32, iv1 = xl3 + 1 → (K16 h al0 xl1 xl2 iv1)
set_option maxRecDepth 100000 in
theorem tb_X11_storm_52 {G : GG} {p : Program} {l : Launch} {e : Env} {R : Room} {s : State} {m : MethodId} {args : Array Value} {below : List Frame} {meth : Method} {c : Code} {n0 s0 : Nat} {post : AH → Int32 → Prop} (C : Cx G p R s m args meth c 4 cX11_storm RX11 n0 s0 2 54) (hr : meth.sig.returnType = (some .int)) {K16 : AH → Nat → Int32 → Int32 → Int32 → Prop} (hK16 : ∀ (h : AH) (al0 : Nat) (xl1 : Int32) (xl2 : Int32) (xl3 : Int32), K16 h al0 xl1 xl2 xl3 → AW G p l e R s m args below meth c 4 (QM G (pI post) args s below n0 s0) 16 [(0, .ref (G.1 + al0)), (1, .int xl1), (2, .int xl2), (3, .int xl3)] [] h) {h : AH} {al0 : Nat} {xl1 : Int32} {xl2 : Int32} {xl3 : Int32}  (hw : wb_X11_storm_52 K16 h al0 xl1 xl2 xl3 post) : AW G p l e R s m args below meth c 4 (QM G (pI post) args s below n0 s0) 52 [(0, .ref (G.1 + al0)), (1, .int xl1), (2, .int xl2), (3, .int xl3)] [] h := by
  unfold wb_X11_storm_52 at hw
  obtain ⟨iv1, eiv1⟩ : ∃ q : Int32, q = xl3 + 1 := ⟨_, rfl⟩
  replace hw := hw iv1 eiv1
  refine r_iinc C dX11_storm_52 3 rfl (by rw [eiv1]; rfl) [(3, .int iv1), (0, .ref (G.1 + al0)), (1, .int xl1), (2, .int xl2)] (by decide) rfl ?_
  refine r_goto C dX11_storm_55 16 (by decide) ?_
  refine r_sub [1, 2, 3, 0] rfl ?_
  exact hK16 _ _ _ _ _ hw
def wb_X11_storm_16 (K16 : AH → Nat → Int32 → Int32 → Int32 → Prop) (h : AH) (al0 : Nat) (xl1 : Int32) (xl2 : Int32) (xl3 : Int32)  (post : AH → Int32 → Prop) : Prop := (ob h al0 10) ∧ (∃ rv1, aP h al0 5 = some rv1 ∧ ((ob h rv1 5) ∧ (∃ rv2, aP h rv1 0 = some rv2 ∧ ((ob h rv2 1) ∧ (((aI h rv2 5) ≤ xl3 → (post h xl2)) ∧ (¬ (aI h rv2 5) ≤ xl3 → ((ob h al0 10) ∧ (∃ rv3, aP h al0 5 = some rv3 ∧ ((ob h rv3 5) ∧ (∃ rv4, aP h rv3 0 = some rv4 ∧ ((ob h rv4 1) ∧ wp_X1_isDriven h rv4 xl3 xl1 0 (fun hv5 iv6 => (iv6 = 0 → (wb_X11_storm_52 K16 hv5 al0 xl1 xl2 xl3 post)) ∧ (¬ iv6 = 0 → (∀ iv7 : Int32, iv7 = xl2 ||| ((1 : Int32) <<< (xl3 &&& 31)) → (wb_X11_storm_52 K16 hv5 al0 xl1 iv7 xl3 post)))))))))))))))
set_option maxRecDepth 100000 in
theorem tb_X11_storm_16 {G : GG} {p : Program} {l : Launch} {e : Env} {R : Room} {s : State} {m : MethodId} {args : Array Value} {below : List Frame} {meth : Method} {c : Code} {n0 s0 : Nat} {post : AH → Int32 → Prop} (C : Cx G p R s m args meth c 4 cX11_storm RX11 n0 s0 2 54) (hr : meth.sig.returnType = (some .int)) {K16 : AH → Nat → Int32 → Int32 → Int32 → Prop} (hK16 : ∀ (h : AH) (al0 : Nat) (xl1 : Int32) (xl2 : Int32) (xl3 : Int32), K16 h al0 xl1 xl2 xl3 → AW G p l e R s m args below meth c 4 (QM G (pI post) args s below n0 s0) 16 [(0, .ref (G.1 + al0)), (1, .int xl1), (2, .int xl2), (3, .int xl3)] [] h) {h : AH} {al0 : Nat} {xl1 : Int32} {xl2 : Int32} {xl3 : Int32}  (hw : wb_X11_storm_16 K16 h al0 xl1 xl2 xl3 post) : AW G p l e R s m args below meth c 4 (QM G (pI post) args s below n0 s0) 16 [(0, .ref (G.1 + al0)), (1, .int xl1), (2, .int xl2), (3, .int xl3)] [] h := by
  unfold wb_X11_storm_16 at hw
  refine r_iload_n C dX11_storm_16 3 rfl ?_
  refine r_aload_n C dX11_storm_17 0 rfl ?_
  have hob := hw.1
  obtain ⟨rv1, hp, hw⟩ := hw.2
  refine r_getP C fl_RX11_30_10 hob hp (fun _ _ _ => rfl) dX11_storm_18 ?_
  have hob := hw.1
  obtain ⟨rv2, hp, hw⟩ := hw.2
  refine r_getP C fl_RX11_40_5 hob hp (fun _ _ _ => rfl) dX11_storm_21 ?_
  refine r_getI C fl_RX11_147_1 hw.1 (fun _ _ _ => rfl) dX11_storm_24 ?_
  replace hw := hw.2
  refine r_icmp_ge C dX11_storm_27 58 (by decide) (fun hc => ?_) (fun hc => ?_)
  · replace hw := hw.1 hc
    refine r_iload_n C dX11_storm_58 2 rfl ?_
    exact r_iret C hr dX11_storm_59 hw
  · replace hw := hw.2 hc
    refine r_aload_n C dX11_storm_30 0 rfl ?_
    have hob := hw.1
    obtain ⟨rv3, hp, hw⟩ := hw.2
    refine r_getP C fl_RX11_30_10 hob hp (fun _ _ _ => rfl) dX11_storm_31 ?_
    have hob := hw.1
    obtain ⟨rv4, hp, hw⟩ := hw.2
    refine r_getP C fl_RX11_40_5 hob hp (fun _ _ _ => rfl) dX11_storm_34 ?_
    refine r_iload_n C dX11_storm_37 3 rfl ?_
    refine r_iload_n C dX11_storm_38 1 rfl ?_
    refine r_iconst (v := 0) C dX11_storm_39 (by decide) ?_
    have hob := hw.1
    replace hw := hw.2
    refine r_callV C (As := [.int xl3, .int xl1, .int 0]) (rest := []) (c_X1_isDriven G h rv4 xl3 xl1 0 _ hw) yl_X1_isDriven (gm6 (List.mem_of_getElem? (i := 38) rfl) rfl) (gm6 (List.mem_of_getElem? (i := 39) rfl) rfl) (ci := 1) rfl (by decide) (gm6 (List.mem_of_getElem? (i := 40) rfl) rfl) hob (by decide) rfl (Nat.le_of_ble_eq_true rfl) dX11_storm_40 rfl (kI fun hv5 iv6 hw => ?_)
    refine r_if_eq C dX11_storm_43 52 (by decide) (fun hc => ?_) (fun hc => ?_)
    · replace hw := hw.1 hc
      refine r_sub [0, 1, 2, 3] rfl ?_
      exact tb_X11_storm_52 C hr hK16 hw
    · replace hw := hw.2 hc
      refine r_iload_n C dX11_storm_46 2 rfl ?_
      refine r_iconst (v := 1) C dX11_storm_47 (by decide) ?_
      refine r_iload_n C dX11_storm_48 3 rfl ?_
      refine r_ishl C dX11_storm_49 ?_
      refine r_ior C dX11_storm_50 ?_
      refine r_topi fun iv7 eiv7 => ?_
      replace hw := hw iv7 eiv7
      refine r_istore_n C dX11_storm_51 [(2, .int iv7), (0, .ref (G.1 + al0)), (1, .int xl1), (3, .int xl3)] (by decide) rfl ?_
      refine r_sub [1, 2, 0, 3] rfl ?_
      exact tb_X11_storm_52 C hr hK16 hw
def wl_X11_storm_16  (post : AH → Int32 → Prop) : Nat → AH → Nat → Int32 → Int32 → Int32 → Prop
  | 0 => fun _ _ _ _ _ => False
  | n + 1 => fun h al0 xl1 xl2 xl3 => wb_X11_storm_16  (wl_X11_storm_16  post n) h al0 xl1 xl2 xl3 post
theorem tl_X11_storm_16 {G : GG} {p : Program} {l : Launch} {e : Env} {R : Room} {s : State} {m : MethodId} {args : Array Value} {below : List Frame} {meth : Method} {c : Code} {n0 s0 : Nat} {post : AH → Int32 → Prop} (C : Cx G p R s m args meth c 4 cX11_storm RX11 n0 s0 2 54) (hr : meth.sig.returnType = (some .int))   : ∀ (n : Nat) (h : AH) (al0 : Nat) (xl1 : Int32) (xl2 : Int32) (xl3 : Int32), wl_X11_storm_16  post n h al0 xl1 xl2 xl3 → AW G p l e R s m args below meth c 4 (QM G (pI post) args s below n0 s0) 16 [(0, .ref (G.1 + al0)), (1, .int xl1), (2, .int xl2), (3, .int xl3)] [] h := by
  intro n
  induction n with
  | zero => intro h al0 xl1 xl2 xl3 hw; exact hw.elim
  | succ n ih => intro h al0 xl1 xl2 xl3 hw; exact tb_X11_storm_16 C hr  ih hw
def wp_X11_storm (h : AH) (a0 : Nat) (x1 : Int32) (post : AH → Int32 → Prop) : Prop := (x1 < 0 → (post h (-1))) ∧ (¬ x1 < 0 → ((x1 ≤ 99 → (∃ n, wl_X11_storm_16  post n h a0 x1 0 0)) ∧ (¬ x1 ≤ 99 → (post h (-1)))))
set_option maxRecDepth 100000 in
theorem c_X11_storm (G : GG) (h : AH) (a0 : Nat) (x1 : Int32) (post : AH → Int32 → Prop) (hw : wp_X11_storm h a0 x1 post) : MC G yX11_storm cX11_storm 4 (some .int) 2 54 h [.ref (G.1 + a0), .int x1] (pI post) := by
  refine MC.of (lv := [(0, .ref (G.1 + a0)), (1, .int x1)]) (by decide) (Nat.le_of_ble_eq_true rfl) rfl fun p l e R s m args below meth c C hr hnm => ?_
  unfold wp_X11_storm at hw
  refine r_iload_n C dX11_storm_0 1 rfl ?_
  refine r_if_lt C dX11_storm_1 10 (by decide) (fun hc => ?_) (fun hc => ?_)
  · replace hw := hw.1 hc
    refine r_iconst (v := (-1)) C dX11_storm_10 (by decide) ?_
    exact r_iret C hr dX11_storm_11 hw
  · replace hw := hw.2 hc
    refine r_iload_n C dX11_storm_4 1 rfl ?_
    refine r_bipush (v := 99) C dX11_storm_5 (by decide) ?_
    refine r_icmp_le C dX11_storm_7 12 (by decide) (fun hc => ?_) (fun hc => ?_)
    · replace hw := hw.1 hc
      refine r_iconst (v := 0) C dX11_storm_12 (by decide) ?_
      refine r_istore_n C dX11_storm_13 [(2, .int 0), (0, .ref (G.1 + a0)), (1, .int x1)] (by decide) rfl ?_
      refine r_iconst (v := 0) C dX11_storm_14 (by decide) ?_
      refine r_istore_n C dX11_storm_15 [(3, .int 0), (2, .int 0), (0, .ref (G.1 + a0)), (1, .int x1)] (by decide) rfl ?_
      refine r_sub [2, 3, 1, 0] rfl ?_
      obtain ⟨n, hw⟩ := hw
      exact tl_X11_storm_16 C hr  n _ _ _ _ _ hw
    · replace hw := hw.2 hc
      refine r_iconst (v := (-1)) C dX11_storm_10 (by decide) ?_
      exact r_iret C hr dX11_storm_11 hw
theorem dX11_cut_0 : decode cX11_cut 0 = .ok (.aload_n 0, 1) := by decide +kernel
theorem dX11_cut_1 : decode cX11_cut 1 = .ok (.iload_n 1, 1) := by decide +kernel
theorem dX11_cut_2 : decode cX11_cut 2 = .ok (.invokevirtual 126, 3) := by decide +kernel
theorem dX11_cut_5 : decode cX11_cut 5 = .ok (.ifCond .eq 22, 3) := by decide +kernel
theorem dX11_cut_8 : decode cX11_cut 8 = .ok (.iload_n 2, 1) := by decide +kernel
theorem dX11_cut_9 : decode cX11_cut 9 = .ok (.ifCond .lt 18, 3) := by decide +kernel
theorem dX11_cut_12 : decode cX11_cut 12 = .ok (.iload_n 2, 1) := by decide +kernel
theorem dX11_cut_13 : decode cX11_cut 13 = .ok (.bipush 99, 2) := by decide +kernel
theorem dX11_cut_15 : decode cX11_cut 15 = .ok (.if_icmp .gt 12, 3) := by decide +kernel
theorem dX11_cut_18 : decode cX11_cut 18 = .ok (.iload_n 3, 1) := by decide +kernel
theorem dX11_cut_19 : decode cX11_cut 19 = .ok (.ifCond .lt 8, 3) := by decide +kernel
theorem dX11_cut_22 : decode cX11_cut 22 = .ok (.iload_n 3, 1) := by decide +kernel
theorem dX11_cut_23 : decode cX11_cut 23 = .ok (.iconst 1, 1) := by decide +kernel
theorem dX11_cut_24 : decode cX11_cut 24 = .ok (.if_icmp .le 5, 3) := by decide +kernel
theorem dX11_cut_27 : decode cX11_cut 27 = .ok (.iconst (-1), 1) := by decide +kernel
theorem dX11_cut_28 : decode cX11_cut 28 = .ok (.ireturn, 1) := by decide +kernel
theorem dX11_cut_29 : decode cX11_cut 29 = .ok (.aload_n 0, 1) := by decide +kernel
theorem dX11_cut_30 : decode cX11_cut 30 = .ok (.getfield 30, 3) := by decide +kernel
theorem dX11_cut_33 : decode cX11_cut 33 = .ok (.getfield 40, 3) := by decide +kernel
theorem dX11_cut_36 : decode cX11_cut 36 = .ok (.iload_n 1, 1) := by decide +kernel
theorem dX11_cut_37 : decode cX11_cut 37 = .ok (.iload_n 2, 1) := by decide +kernel
theorem dX11_cut_38 : decode cX11_cut 38 = .ok (.invokevirtual 313, 3) := by decide +kernel
theorem dX11_cut_41 : decode cX11_cut 41 = .ok (.istore 4, 2) := by decide +kernel
theorem dX11_cut_43 : decode cX11_cut 43 = .ok (.iload 4, 2) := by decide +kernel
theorem dX11_cut_45 : decode cX11_cut 45 = .ok (.ifCond .lt 8, 3) := by decide +kernel
theorem dX11_cut_48 : decode cX11_cut 48 = .ok (.iload_n 3, 1) := by decide +kernel
theorem dX11_cut_49 : decode cX11_cut 49 = .ok (.iconst 1, 1) := by decide +kernel
theorem dX11_cut_50 : decode cX11_cut 50 = .ok (.if_icmp .ne 6, 3) := by decide +kernel
theorem dX11_cut_53 : decode cX11_cut 53 = .ok (.iload 4, 2) := by decide +kernel
theorem dX11_cut_55 : decode cX11_cut 55 = .ok (.ireturn, 1) := by decide +kernel
theorem dX11_cut_56 : decode cX11_cut 56 = .ok (.aload_n 0, 1) := by decide +kernel
theorem dX11_cut_57 : decode cX11_cut 57 = .ok (.getfield 30, 3) := by decide +kernel
theorem dX11_cut_60 : decode cX11_cut 60 = .ok (.getfield 40, 3) := by decide +kernel
theorem dX11_cut_63 : decode cX11_cut 63 = .ok (.getfield 316, 3) := by decide +kernel
theorem dX11_cut_66 : decode cX11_cut 66 = .ok (.iload 4, 2) := by decide +kernel
theorem dX11_cut_68 : decode cX11_cut 68 = .ok (.invokevirtual 320, 3) := by decide +kernel
theorem dX11_cut_71 : decode cX11_cut 71 = .ok (.ireturn, 1) := by decide +kernel
def wp_X11_cut (h : AH) (a0 : Nat) (x1 : Int32) (x2 : Int32) (x3 : Int32) (post : AH → Int32 → Prop) : Prop := (ob h a0 10) ∧ wp_X11_isRaft h a0 x1 (fun hv1 iv2 => (iv2 = 0 → (post hv1 (-1))) ∧ (¬ iv2 = 0 → ((x2 < 0 → (post hv1 (-1))) ∧ (¬ x2 < 0 → ((99 < x2 → (post hv1 (-1))) ∧ (¬ 99 < x2 → ((x3 < 0 → (post hv1 (-1))) ∧ (¬ x3 < 0 → ((x3 ≤ 1 → ((ob hv1 a0 10) ∧ (∃ rv3, aP hv1 a0 5 = some rv3 ∧ ((ob hv1 rv3 5) ∧ (∃ rv4, aP hv1 rv3 0 = some rv4 ∧ ((ob hv1 rv4 1) ∧ wp_X1_leastCut hv1 rv4 x1 x2 (fun hv5 iv6 => (iv6 < 0 → (post hv5 iv6)) ∧ (¬ iv6 < 0 → ((¬ x3 = 1 → ((ob hv5 a0 10) ∧ (∃ rv7, aP hv5 a0 5 = some rv7 ∧ ((ob hv5 rv7 5) ∧ (∃ rv8, aP hv5 rv7 0 = some rv8 ∧ ((ob hv5 rv8 1) ∧ (∃ rv9, aP hv5 rv8 14 = some rv9 ∧ ((ob hv5 rv9 4) ∧ wp_X4_holdsOf hv5 rv9 iv6 (fun hv10 iv11 => post hv10 iv11))))))))) ∧ (x3 = 1 → (post hv5 iv6))))))))))) ∧ (¬ x3 ≤ 1 → (post hv1 (-1))))))))))))
set_option maxRecDepth 100000 in
theorem c_X11_cut (G : GG) (h : AH) (a0 : Nat) (x1 : Int32) (x2 : Int32) (x3 : Int32) (post : AH → Int32 → Prop) (hw : wp_X11_cut h a0 x1 x2 x3 post) : MC G yX11_cut cX11_cut 5 (some .int) 3 81 h [.ref (G.1 + a0), .int x1, .int x2, .int x3] (pI post) := by
  refine MC.of (lv := [(0, .ref (G.1 + a0)), (1, .int x1), (2, .int x2), (3, .int x3)]) (by decide) (Nat.le_of_ble_eq_true rfl) rfl fun p l e R s m args below meth c C hr hnm => ?_
  unfold wp_X11_cut at hw
  refine r_aload_n C dX11_cut_0 0 rfl ?_
  refine r_iload_n C dX11_cut_1 1 rfl ?_
  have hob := hw.1
  replace hw := hw.2
  refine r_callV C (As := [.int x1]) (rest := []) (c_X11_isRaft G h a0 x1 _ hw) yl_X11_isRaft (gm4 (List.mem_of_getElem? (i := 145) rfl) rfl) (gm4 (List.mem_of_getElem? (i := 147) rfl) rfl) (ci := 10) rfl (by decide) (gsel (List.mem_of_getElem? (i := 16) rfl)) hob (by decide) rfl (Nat.le_of_ble_eq_true rfl) dX11_cut_2 rfl (kI fun hv1 iv2 hw => ?_)
  refine r_if_eq C dX11_cut_5 27 (by decide) (fun hc => ?_) (fun hc => ?_)
  · replace hw := hw.1 hc
    refine r_iconst (v := (-1)) C dX11_cut_27 (by decide) ?_
    exact r_iret C hr dX11_cut_28 hw
  · replace hw := hw.2 hc
    refine r_iload_n C dX11_cut_8 2 rfl ?_
    refine r_if_lt C dX11_cut_9 27 (by decide) (fun hc => ?_) (fun hc => ?_)
    · replace hw := hw.1 hc
      refine r_iconst (v := (-1)) C dX11_cut_27 (by decide) ?_
      exact r_iret C hr dX11_cut_28 hw
    · replace hw := hw.2 hc
      refine r_iload_n C dX11_cut_12 2 rfl ?_
      refine r_bipush (v := 99) C dX11_cut_13 (by decide) ?_
      refine r_icmp_gt C dX11_cut_15 27 (by decide) (fun hc => ?_) (fun hc => ?_)
      · replace hw := hw.1 hc
        refine r_iconst (v := (-1)) C dX11_cut_27 (by decide) ?_
        exact r_iret C hr dX11_cut_28 hw
      · replace hw := hw.2 hc
        refine r_iload_n C dX11_cut_18 3 rfl ?_
        refine r_if_lt C dX11_cut_19 27 (by decide) (fun hc => ?_) (fun hc => ?_)
        · replace hw := hw.1 hc
          refine r_iconst (v := (-1)) C dX11_cut_27 (by decide) ?_
          exact r_iret C hr dX11_cut_28 hw
        · replace hw := hw.2 hc
          refine r_iload_n C dX11_cut_22 3 rfl ?_
          refine r_iconst (v := 1) C dX11_cut_23 (by decide) ?_
          refine r_icmp_le C dX11_cut_24 29 (by decide) (fun hc => ?_) (fun hc => ?_)
          · replace hw := hw.1 hc
            refine r_aload_n C dX11_cut_29 0 rfl ?_
            have hob := hw.1
            obtain ⟨rv3, hp, hw⟩ := hw.2
            refine r_getP C fl_RX11_30_10 hob hp (fun _ _ _ => rfl) dX11_cut_30 ?_
            have hob := hw.1
            obtain ⟨rv4, hp, hw⟩ := hw.2
            refine r_getP C fl_RX11_40_5 hob hp (fun _ _ _ => rfl) dX11_cut_33 ?_
            refine r_iload_n C dX11_cut_36 1 rfl ?_
            refine r_iload_n C dX11_cut_37 2 rfl ?_
            have hob := hw.1
            replace hw := hw.2
            refine r_callV C (As := [.int x1, .int x2]) (rest := []) (c_X1_leastCut G hv1 rv4 x1 x2 _ hw) yl_X1_leastCut (gm6 (List.mem_of_getElem? (i := 50) rfl) rfl) (gm6 (List.mem_of_getElem? (i := 51) rfl) rfl) (ci := 1) rfl (by decide) (gm6 (List.mem_of_getElem? (i := 52) rfl) rfl) hob (by decide) rfl (Nat.le_of_ble_eq_true rfl) dX11_cut_38 rfl (kI fun hv5 iv6 hw => ?_)
            refine r_istore C dX11_cut_41 [(4, .int iv6), (0, .ref (G.1 + a0)), (1, .int x1), (2, .int x2), (3, .int x3)] (by decide) rfl ?_
            refine r_iload C dX11_cut_43 0 rfl ?_
            refine r_if_lt C dX11_cut_45 53 (by decide) (fun hc => ?_) (fun hc => ?_)
            · replace hw := hw.1 hc
              refine r_iload C dX11_cut_53 0 rfl ?_
              exact r_iret C hr dX11_cut_55 hw
            · replace hw := hw.2 hc
              refine r_iload_n C dX11_cut_48 4 rfl ?_
              refine r_iconst (v := 1) C dX11_cut_49 (by decide) ?_
              refine r_icmp_ne C dX11_cut_50 56 (by decide) (fun hc => ?_) (fun hc => ?_)
              · replace hw := hw.1 hc
                refine r_aload_n C dX11_cut_56 1 rfl ?_
                have hob := hw.1
                obtain ⟨rv7, hp, hw⟩ := hw.2
                refine r_getP C fl_RX11_30_10 hob hp (fun _ _ _ => rfl) dX11_cut_57 ?_
                have hob := hw.1
                obtain ⟨rv8, hp, hw⟩ := hw.2
                refine r_getP C fl_RX11_40_5 hob hp (fun _ _ _ => rfl) dX11_cut_60 ?_
                have hob := hw.1
                obtain ⟨rv9, hp, hw⟩ := hw.2
                refine r_getP C fl_RX11_316_1 hob hp (fun _ _ _ => rfl) dX11_cut_63 ?_
                refine r_iload C dX11_cut_66 0 rfl ?_
                have hob := hw.1
                replace hw := hw.2
                refine r_callV C (As := [.int iv6]) (rest := []) (c_X4_holdsOf G hv5 rv9 iv6 _ hw) yl_X4_holdsOf (gm6 (List.mem_of_getElem? (i := 65) rfl) rfl) (gm6 (List.mem_of_getElem? (i := 55) rfl) rfl) (ci := 4) rfl (by decide) (gm6 (List.mem_of_getElem? (i := 56) rfl) rfl) hob (by decide) rfl (Nat.le_of_ble_eq_true rfl) dX11_cut_68 rfl (kI fun hv10 iv11 hw => ?_)
                exact r_iret C hr dX11_cut_71 hw
              · replace hw := hw.2 hc
                refine r_iload C dX11_cut_53 0 rfl ?_
                exact r_iret C hr dX11_cut_55 hw
          · replace hw := hw.2 hc
            refine r_iconst (v := (-1)) C dX11_cut_27 (by decide) ?_
            exact r_iret C hr dX11_cut_28 hw
theorem dX11_image_0 : decode cX11_image 0 = .ok (.iload_n 1, 1) := by decide +kernel
theorem dX11_image_1 : decode cX11_image 1 = .ok (.ifCond .lt 8, 3) := by decide +kernel
theorem dX11_image_4 : decode cX11_image 4 = .ok (.iload_n 1, 1) := by decide +kernel
theorem dX11_image_5 : decode cX11_image 5 = .ok (.iconst 2, 1) := by decide +kernel
theorem dX11_image_6 : decode cX11_image 6 = .ok (.if_icmp .lt 5, 3) := by decide +kernel
theorem dX11_image_9 : decode cX11_image 9 = .ok (.iconst 0, 1) := by decide +kernel
theorem dX11_image_10 : decode cX11_image 10 = .ok (.ireturn, 1) := by decide +kernel
theorem dX11_image_11 : decode cX11_image 11 = .ok (.aload_n 0, 1) := by decide +kernel
theorem dX11_image_12 : decode cX11_image 12 = .ok (.getfield 34, 3) := by decide +kernel
theorem dX11_image_15 : decode cX11_image 15 = .ok (.iload_n 1, 1) := by decide +kernel
theorem dX11_image_16 : decode cX11_image 16 = .ok (.aaload, 1) := by decide +kernel
theorem dX11_image_17 : decode cX11_image 17 = .ok (.ifnonnull 16, 3) := by decide +kernel
theorem dX11_image_20 : decode cX11_image 20 = .ok (.aload_n 0, 1) := by decide +kernel
theorem dX11_image_21 : decode cX11_image 21 = .ok (.getfield 34, 3) := by decide +kernel
theorem dX11_image_24 : decode cX11_image 24 = .ok (.iload_n 1, 1) := by decide +kernel
theorem dX11_image_25 : decode cX11_image 25 = .ok (.new 27, 3) := by decide +kernel
theorem dX11_image_28 : decode cX11_image 28 = .ok (.dup, 1) := by decide +kernel
theorem dX11_image_29 : decode cX11_image 29 = .ok (.invokespecial 29, 3) := by decide +kernel
theorem dX11_image_32 : decode cX11_image 32 = .ok (.aastore, 1) := by decide +kernel
theorem dX11_image_33 : decode cX11_image 33 = .ok (.aload_n 0, 1) := by decide +kernel
theorem dX11_image_34 : decode cX11_image 34 = .ok (.getfield 34, 3) := by decide +kernel
theorem dX11_image_37 : decode cX11_image 37 = .ok (.iload_n 1, 1) := by decide +kernel
theorem dX11_image_38 : decode cX11_image 38 = .ok (.aaload, 1) := by decide +kernel
theorem dX11_image_39 : decode cX11_image 39 = .ok (.aload_n 0, 1) := by decide +kernel
theorem dX11_image_40 : decode cX11_image 40 = .ok (.getfield 30, 3) := by decide +kernel
theorem dX11_image_43 : decode cX11_image 43 = .ok (.invokevirtual 325, 3) := by decide +kernel
theorem dX11_image_46 : decode cX11_image 46 = .ok (.iconst 1, 1) := by decide +kernel
theorem dX11_image_47 : decode cX11_image 47 = .ok (.ireturn, 1) := by decide +kernel
def wb_X11_image_33  (h : AH) (al0 : Nat) (xl1 : Int32)  (post : AH → Int32 → Prop) : Prop := (ob h al0 10) ∧ (∃ rv1, aP h al0 6 = some rv1 ∧ ((ob h rv1 16) ∧ ((vp_in xl1 (aL h rv1)) ∧ (∃ rv2, aP h rv1 xl1.toNatClampNeg = some rv2 ∧ ((ob h al0 10) ∧ (∃ rv3, aP h al0 5 = some rv3 ∧ ((ob h rv2 5) ∧ wp_X5_copy h rv2 rv3 (fun hv4  => ((1 : Int32) = 0 ∨ (1 : Int32) = 1) ∧ post hv4 1))))))))
set_option maxRecDepth 100000 in
theorem tb_X11_image_33 {G : GG} {p : Program} {l : Launch} {e : Env} {R : Room} {s : State} {m : MethodId} {args : Array Value} {below : List Frame} {meth : Method} {c : Code} {n0 s0 : Nat} {post : AH → Int32 → Prop} (C : Cx G p R s m args meth c 2 cX11_image RX11 n0 s0 4 89) (hr : meth.sig.returnType = (some .boolean))   {h : AH} {al0 : Nat} {xl1 : Int32}  (hw : wb_X11_image_33  h al0 xl1 post) : AW G p l e R s m args below meth c 2 (QM G (pI post) args s below n0 s0) 33 [(0, .ref (G.1 + al0)), (1, .int xl1)] [] h := by
  unfold wb_X11_image_33 at hw
  refine r_aload_n C dX11_image_33 0 rfl ?_
  have hob := hw.1
  obtain ⟨rv1, hp, hw⟩ := hw.2
  refine r_getP C fl_RX11_34_10 hob hp (fun _ _ _ => rfl) dX11_image_34 ?_
  refine r_iload_n C dX11_image_37 1 rfl ?_
  have hob := hw.1
  have hin := hw.2.1
  obtain ⟨rv2, hp, hw⟩ := hw.2.2
  refine r_aaload C hob hin hp dX11_image_38 ?_
  refine r_aload_n C dX11_image_39 0 rfl ?_
  have hob := hw.1
  obtain ⟨rv3, hp, hw⟩ := hw.2
  refine r_getP C fl_RX11_30_10 hob hp (fun _ _ _ => rfl) dX11_image_40 ?_
  have hob := hw.1
  replace hw := hw.2
  refine r_callV C (As := [.ref (G.1 + rv3)]) (rest := []) (c_X5_copy G h rv2 rv3 _ hw) yl_X5_copy (gm6 (List.mem_of_getElem? (i := 70) rfl) rfl) (gm6 (List.mem_of_getElem? (i := 71) rfl) rfl) (ci := 5) rfl (by decide) (gm6 (List.mem_of_getElem? (i := 72) rfl) rfl) hob (by decide) rfl (Nat.le_of_ble_eq_true rfl) dX11_image_43 rfl (kV fun hv4  hw => ?_)
  refine r_iconst (v := 1) C dX11_image_46 (by decide) ?_
  exact r_zret C hr dX11_image_47 hw.1 hw.2
def wp_X11_image (h : AH) (a0 : Nat) (x1 : Int32) (post : AH → Int32 → Prop) : Prop := (x1 < 0 → (((0 : Int32) = 0 ∨ (0 : Int32) = 1) ∧ post h 0)) ∧ (¬ x1 < 0 → ((x1 < 2 → ((ob h a0 10) ∧ (∃ rv1, aP h a0 6 = some rv1 ∧ ((ob h rv1 16) ∧ ((vp_in x1 (aL h rv1)) ∧ ((aP h rv1 x1.toNatClampNeg = none → ((ob h a0 10) ∧ (∃ rv3, aP h a0 6 = some rv3 ∧ ((aN h < 601024 ∧ aS h + 5 ≤ 7293034) ∧ (∀ (hv4 : AH) (rv5 : Nat), hv4 = hNew h 5 5 → rv5 = aN h → (wp_X5_init hv4 rv5  (fun hv6  => (ob hv6 rv3 16) ∧ ((ob hv6 rv5 5) ∧ ((vp_in x1 (aL hv6 rv3)) ∧ (∀ hv7 : AH, hv7 = hP hv6 rv3 x1.toNatClampNeg rv5 → (wb_X11_image_33  hv7 a0 x1 post))))))))))) ∧ (∀ rv2, aP h rv1 x1.toNatClampNeg = some rv2 → (wb_X11_image_33  h a0 x1 post)))))))) ∧ (¬ x1 < 2 → (((0 : Int32) = 0 ∨ (0 : Int32) = 1) ∧ post h 0))))
set_option maxRecDepth 100000 in
theorem c_X11_image (G : GG) (h : AH) (a0 : Nat) (x1 : Int32) (post : AH → Int32 → Prop) (hw : wp_X11_image h a0 x1 post) : MC G yX11_image cX11_image 2 (some .boolean) 4 89 h [.ref (G.1 + a0), .int x1] (pI post) := by
  refine MC.of (lv := [(0, .ref (G.1 + a0)), (1, .int x1)]) (by decide) (Nat.le_of_ble_eq_true rfl) rfl fun p l e R s m args below meth c C hr hnm => ?_
  unfold wp_X11_image at hw
  refine r_iload_n C dX11_image_0 1 rfl ?_
  refine r_if_lt C dX11_image_1 9 (by decide) (fun hc => ?_) (fun hc => ?_)
  · replace hw := hw.1 hc
    refine r_iconst (v := 0) C dX11_image_9 (by decide) ?_
    exact r_zret C hr dX11_image_10 hw.1 hw.2
  · replace hw := hw.2 hc
    refine r_iload_n C dX11_image_4 1 rfl ?_
    refine r_iconst (v := 2) C dX11_image_5 (by decide) ?_
    refine r_icmp_lt C dX11_image_6 11 (by decide) (fun hc => ?_) (fun hc => ?_)
    · replace hw := hw.1 hc
      refine r_aload_n C dX11_image_11 0 rfl ?_
      have hob := hw.1
      obtain ⟨rv1, hp, hw⟩ := hw.2
      refine r_getP C fl_RX11_34_10 hob hp (fun _ _ _ => rfl) dX11_image_12 ?_
      refine r_iload_n C dX11_image_15 1 rfl ?_
      have hob := hw.1
      have hin := hw.2.1
      replace hw := hw.2.2
      rcases hq : aP h rv1 x1.toNatClampNeg with _ | rv2
      · replace hw := hw.1 hq
        refine r_aaloadN C hob hin hq dX11_image_16 ?_
        refine r_ifnonnullN C dX11_image_17 ?_
        refine r_aload_n C dX11_image_20 0 rfl ?_
        have hob := hw.1
        obtain ⟨rv3, hp, hw⟩ := hw.2
        refine r_getP C fl_RX11_34_10 hob hp (fun _ _ _ => rfl) dX11_image_21 ?_
        refine r_iload_n C dX11_image_24 1 rfl ?_
        refine r_new C (ci := 5) nl_RX11_27 hw.1 dX11_image_25 ?_
        replace hw := hw.2
        refine r_topn fun hv4 rv5 ehv4 erv5 => ?_
        replace hw := hw hv4 rv5 ehv4 erv5
        refine r_dup C dX11_image_28 rfl ?_
        refine r_callIN C (As := []) (rest := [.ref (G.1 + rv5), .int x1, .ref (G.1 + rv3)]) (c_X5_init G hv4 rv5  _ hw) yl_X5_init (List.mem_of_getElem? (i := 4) rfl) (gm2 (List.mem_of_getElem? (i := 104) rfl) rfl) rfl (by decide) rfl (Nat.le_of_ble_eq_true rfl) dX11_image_29 rfl (kV fun hv6  hw => ?_)
        refine r_aastore C hw.1 hw.2.1 hw.2.2.1 dX11_image_32 ?_
        replace hw := hw.2.2.2
        refine r_toph fun hv7 ehv7 => ?_
        replace hw := hw hv7 ehv7
        refine r_sub [0, 1] rfl ?_
        exact tb_X11_image_33 C hr  hw
      · replace hw := hw.2 rv2 hq
        refine r_aaload C hob hin hq dX11_image_16 ?_
        refine r_ifnonnull C dX11_image_17 33 (by decide) ?_
        refine r_sub [0, 1] rfl ?_
        exact tb_X11_image_33 C hr  hw
    · replace hw := hw.2 hc
      refine r_iconst (v := 0) C dX11_image_9 (by decide) ?_
      exact r_zret C hr dX11_image_10 hw.1 hw.2
theorem dX11_restore_0 : decode cX11_restore 0 = .ok (.iload_n 1, 1) := by decide +kernel
theorem dX11_restore_1 : decode cX11_restore 1 = .ok (.ifCond .lt 17, 3) := by decide +kernel
theorem dX11_restore_4 : decode cX11_restore 4 = .ok (.iload_n 1, 1) := by decide +kernel
theorem dX11_restore_5 : decode cX11_restore 5 = .ok (.iconst 2, 1) := by decide +kernel
theorem dX11_restore_6 : decode cX11_restore 6 = .ok (.if_icmp .ge 12, 3) := by decide +kernel
theorem dX11_restore_9 : decode cX11_restore 9 = .ok (.aload_n 0, 1) := by decide +kernel
theorem dX11_restore_10 : decode cX11_restore 10 = .ok (.getfield 34, 3) := by decide +kernel
theorem dX11_restore_13 : decode cX11_restore 13 = .ok (.iload_n 1, 1) := by decide +kernel
theorem dX11_restore_14 : decode cX11_restore 14 = .ok (.aaload, 1) := by decide +kernel
theorem dX11_restore_15 : decode cX11_restore 15 = .ok (.ifnonnull 5, 3) := by decide +kernel
theorem dX11_restore_18 : decode cX11_restore 18 = .ok (.iconst 0, 1) := by decide +kernel
theorem dX11_restore_19 : decode cX11_restore 19 = .ok (.ireturn, 1) := by decide +kernel
theorem dX11_restore_20 : decode cX11_restore 20 = .ok (.aload_n 0, 1) := by decide +kernel
theorem dX11_restore_21 : decode cX11_restore 21 = .ok (.getfield 30, 3) := by decide +kernel
theorem dX11_restore_24 : decode cX11_restore 24 = .ok (.aload_n 0, 1) := by decide +kernel
theorem dX11_restore_25 : decode cX11_restore 25 = .ok (.getfield 34, 3) := by decide +kernel
theorem dX11_restore_28 : decode cX11_restore 28 = .ok (.iload_n 1, 1) := by decide +kernel
theorem dX11_restore_29 : decode cX11_restore 29 = .ok (.aaload, 1) := by decide +kernel
theorem dX11_restore_30 : decode cX11_restore 30 = .ok (.invokevirtual 325, 3) := by decide +kernel
theorem dX11_restore_33 : decode cX11_restore 33 = .ok (.iconst 1, 1) := by decide +kernel
theorem dX11_restore_34 : decode cX11_restore 34 = .ok (.ireturn, 1) := by decide +kernel
def wp_X11_restore (h : AH) (a0 : Nat) (x1 : Int32) (post : AH → Int32 → Prop) : Prop := (x1 < 0 → (((0 : Int32) = 0 ∨ (0 : Int32) = 1) ∧ post h 0)) ∧ (¬ x1 < 0 → ((2 ≤ x1 → (((0 : Int32) = 0 ∨ (0 : Int32) = 1) ∧ post h 0)) ∧ (¬ 2 ≤ x1 → ((ob h a0 10) ∧ (∃ rv1, aP h a0 6 = some rv1 ∧ ((ob h rv1 16) ∧ ((vp_in x1 (aL h rv1)) ∧ ((aP h rv1 x1.toNatClampNeg = none → (((0 : Int32) = 0 ∨ (0 : Int32) = 1) ∧ post h 0)) ∧ (∀ rv2, aP h rv1 x1.toNatClampNeg = some rv2 → ((ob h a0 10) ∧ (∃ rv3, aP h a0 5 = some rv3 ∧ ((ob h a0 10) ∧ (∃ rv4, aP h a0 6 = some rv4 ∧ ((ob h rv4 16) ∧ ((vp_in x1 (aL h rv4)) ∧ (∃ rv5, aP h rv4 x1.toNatClampNeg = some rv5 ∧ ((ob h rv3 5) ∧ wp_X5_copy h rv3 rv5 (fun hv6  => ((1 : Int32) = 0 ∨ (1 : Int32) = 1) ∧ post hv6 1))))))))))))))))))
set_option maxRecDepth 100000 in
theorem c_X11_restore (G : GG) (h : AH) (a0 : Nat) (x1 : Int32) (post : AH → Int32 → Prop) (hw : wp_X11_restore h a0 x1 post) : MC G yX11_restore cX11_restore 2 (some .boolean) 4 89 h [.ref (G.1 + a0), .int x1] (pI post) := by
  refine MC.of (lv := [(0, .ref (G.1 + a0)), (1, .int x1)]) (by decide) (Nat.le_of_ble_eq_true rfl) rfl fun p l e R s m args below meth c C hr hnm => ?_
  unfold wp_X11_restore at hw
  refine r_iload_n C dX11_restore_0 1 rfl ?_
  refine r_if_lt C dX11_restore_1 18 (by decide) (fun hc => ?_) (fun hc => ?_)
  · replace hw := hw.1 hc
    refine r_iconst (v := 0) C dX11_restore_18 (by decide) ?_
    exact r_zret C hr dX11_restore_19 hw.1 hw.2
  · replace hw := hw.2 hc
    refine r_iload_n C dX11_restore_4 1 rfl ?_
    refine r_iconst (v := 2) C dX11_restore_5 (by decide) ?_
    refine r_icmp_ge C dX11_restore_6 18 (by decide) (fun hc => ?_) (fun hc => ?_)
    · replace hw := hw.1 hc
      refine r_iconst (v := 0) C dX11_restore_18 (by decide) ?_
      exact r_zret C hr dX11_restore_19 hw.1 hw.2
    · replace hw := hw.2 hc
      refine r_aload_n C dX11_restore_9 0 rfl ?_
      have hob := hw.1
      obtain ⟨rv1, hp, hw⟩ := hw.2
      refine r_getP C fl_RX11_34_10 hob hp (fun _ _ _ => rfl) dX11_restore_10 ?_
      refine r_iload_n C dX11_restore_13 1 rfl ?_
      have hob := hw.1
      have hin := hw.2.1
      replace hw := hw.2.2
      rcases hq : aP h rv1 x1.toNatClampNeg with _ | rv2
      · replace hw := hw.1 hq
        refine r_aaloadN C hob hin hq dX11_restore_14 ?_
        refine r_ifnonnullN C dX11_restore_15 ?_
        refine r_iconst (v := 0) C dX11_restore_18 (by decide) ?_
        exact r_zret C hr dX11_restore_19 hw.1 hw.2
      · replace hw := hw.2 rv2 hq
        refine r_aaload C hob hin hq dX11_restore_14 ?_
        refine r_ifnonnull C dX11_restore_15 20 (by decide) ?_
        refine r_aload_n C dX11_restore_20 0 rfl ?_
        have hob := hw.1
        obtain ⟨rv3, hp, hw⟩ := hw.2
        refine r_getP C fl_RX11_30_10 hob hp (fun _ _ _ => rfl) dX11_restore_21 ?_
        refine r_aload_n C dX11_restore_24 0 rfl ?_
        have hob := hw.1
        obtain ⟨rv4, hp, hw⟩ := hw.2
        refine r_getP C fl_RX11_34_10 hob hp (fun _ _ _ => rfl) dX11_restore_25 ?_
        refine r_iload_n C dX11_restore_28 1 rfl ?_
        have hob := hw.1
        have hin := hw.2.1
        obtain ⟨rv5, hp, hw⟩ := hw.2.2
        refine r_aaload C hob hin hp dX11_restore_29 ?_
        have hob := hw.1
        replace hw := hw.2
        refine r_callV C (As := [.ref (G.1 + rv5)]) (rest := []) (c_X5_copy G h rv3 rv5 _ hw) yl_X5_copy (gm6 (List.mem_of_getElem? (i := 70) rfl) rfl) (gm6 (List.mem_of_getElem? (i := 71) rfl) rfl) (ci := 5) rfl (by decide) (gm6 (List.mem_of_getElem? (i := 72) rfl) rfl) hob (by decide) rfl (Nat.le_of_ble_eq_true rfl) dX11_restore_30 rfl (kV fun hv6  hw => ?_)
        refine r_iconst (v := 1) C dX11_restore_33 (by decide) ?_
        exact r_zret C hr dX11_restore_34 hw.1 hw.2
theorem dX11_count_0 : decode cX11_count 0 = .ok (.iload_n 1, 1) := by decide +kernel
theorem dX11_count_1 : decode cX11_count 1 = .ok (.tableswitch 132 0 7 #[47, 58, 69, 80, 91, 105, 119, 127], 47) := by decide +kernel
theorem dX11_count_48 : decode cX11_count 48 = .ok (.aload_n 0, 1) := by decide +kernel
theorem dX11_count_49 : decode cX11_count 49 = .ok (.getfield 30, 3) := by decide +kernel
theorem dX11_count_52 : decode cX11_count 52 = .ok (.getfield 40, 3) := by decide +kernel
theorem dX11_count_55 : decode cX11_count 55 = .ok (.getfield 329, 3) := by decide +kernel
theorem dX11_count_58 : decode cX11_count 58 = .ok (.ireturn, 1) := by decide +kernel
theorem dX11_count_59 : decode cX11_count 59 = .ok (.aload_n 0, 1) := by decide +kernel
theorem dX11_count_60 : decode cX11_count 60 = .ok (.getfield 30, 3) := by decide +kernel
theorem dX11_count_63 : decode cX11_count 63 = .ok (.getfield 40, 3) := by decide +kernel
theorem dX11_count_66 : decode cX11_count 66 = .ok (.getfield 332, 3) := by decide +kernel
theorem dX11_count_69 : decode cX11_count 69 = .ok (.ireturn, 1) := by decide +kernel
theorem dX11_count_70 : decode cX11_count 70 = .ok (.aload_n 0, 1) := by decide +kernel
theorem dX11_count_71 : decode cX11_count 71 = .ok (.getfield 30, 3) := by decide +kernel
theorem dX11_count_74 : decode cX11_count 74 = .ok (.getfield 40, 3) := by decide +kernel
theorem dX11_count_77 : decode cX11_count 77 = .ok (.getfield 147, 3) := by decide +kernel
theorem dX11_count_80 : decode cX11_count 80 = .ok (.ireturn, 1) := by decide +kernel
theorem dX11_count_81 : decode cX11_count 81 = .ok (.aload_n 0, 1) := by decide +kernel
theorem dX11_count_82 : decode cX11_count 82 = .ok (.getfield 30, 3) := by decide +kernel
theorem dX11_count_85 : decode cX11_count 85 = .ok (.getfield 40, 3) := by decide +kernel
theorem dX11_count_88 : decode cX11_count 88 = .ok (.getfield 335, 3) := by decide +kernel
theorem dX11_count_91 : decode cX11_count 91 = .ok (.ireturn, 1) := by decide +kernel
theorem dX11_count_92 : decode cX11_count 92 = .ok (.aload_n 0, 1) := by decide +kernel
theorem dX11_count_93 : decode cX11_count 93 = .ok (.getfield 30, 3) := by decide +kernel
theorem dX11_count_96 : decode cX11_count 96 = .ok (.getfield 40, 3) := by decide +kernel
theorem dX11_count_99 : decode cX11_count 99 = .ok (.getfield 316, 3) := by decide +kernel
theorem dX11_count_102 : decode cX11_count 102 = .ok (.getfield 338, 3) := by decide +kernel
theorem dX11_count_105 : decode cX11_count 105 = .ok (.ireturn, 1) := by decide +kernel
theorem dX11_count_106 : decode cX11_count 106 = .ok (.aload_n 0, 1) := by decide +kernel
theorem dX11_count_107 : decode cX11_count 107 = .ok (.getfield 30, 3) := by decide +kernel
theorem dX11_count_110 : decode cX11_count 110 = .ok (.getfield 40, 3) := by decide +kernel
theorem dX11_count_113 : decode cX11_count 113 = .ok (.getfield 341, 3) := by decide +kernel
theorem dX11_count_116 : decode cX11_count 116 = .ok (.getfield 345, 3) := by decide +kernel
theorem dX11_count_119 : decode cX11_count 119 = .ok (.ireturn, 1) := by decide +kernel
theorem dX11_count_120 : decode cX11_count 120 = .ok (.aload_n 0, 1) := by decide +kernel
theorem dX11_count_121 : decode cX11_count 121 = .ok (.getfield 30, 3) := by decide +kernel
theorem dX11_count_124 : decode cX11_count 124 = .ok (.getfield 212, 3) := by decide +kernel
theorem dX11_count_127 : decode cX11_count 127 = .ok (.ireturn, 1) := by decide +kernel
theorem dX11_count_128 : decode cX11_count 128 = .ok (.aload_n 0, 1) := by decide +kernel
theorem dX11_count_129 : decode cX11_count 129 = .ok (.getfield 71, 3) := by decide +kernel
theorem dX11_count_132 : decode cX11_count 132 = .ok (.ireturn, 1) := by decide +kernel
theorem dX11_count_133 : decode cX11_count 133 = .ok (.iconst (-1), 1) := by decide +kernel
theorem dX11_count_134 : decode cX11_count 134 = .ok (.ireturn, 1) := by decide +kernel
def wp_X11_count (h : AH) (a0 : Nat) (x1 : Int32) (post : AH → Int32 → Prop) : Prop := (x1 = 0 → ((ob h a0 10) ∧ (∃ rv1, aP h a0 5 = some rv1 ∧ ((ob h rv1 5) ∧ (∃ rv2, aP h rv1 0 = some rv2 ∧ ((ob h rv2 1) ∧ (post h (aI h rv2 0)))))))) ∧ (x1 = 1 → ((ob h a0 10) ∧ (∃ rv3, aP h a0 5 = some rv3 ∧ ((ob h rv3 5) ∧ (∃ rv4, aP h rv3 0 = some rv4 ∧ ((ob h rv4 1) ∧ (post h (aI h rv4 1)))))))) ∧ (x1 = 2 → ((ob h a0 10) ∧ (∃ rv5, aP h a0 5 = some rv5 ∧ ((ob h rv5 5) ∧ (∃ rv6, aP h rv5 0 = some rv6 ∧ ((ob h rv6 1) ∧ (post h (aI h rv6 5)))))))) ∧ (x1 = 3 → ((ob h a0 10) ∧ (∃ rv7, aP h a0 5 = some rv7 ∧ ((ob h rv7 5) ∧ (∃ rv8, aP h rv7 0 = some rv8 ∧ ((ob h rv8 1) ∧ (post h (aI h rv8 11)))))))) ∧ (x1 = 4 → ((ob h a0 10) ∧ (∃ rv9, aP h a0 5 = some rv9 ∧ ((ob h rv9 5) ∧ (∃ rv10, aP h rv9 0 = some rv10 ∧ ((ob h rv10 1) ∧ (∃ rv11, aP h rv10 14 = some rv11 ∧ ((ob h rv11 4) ∧ (post h (aI h rv11 0)))))))))) ∧ (x1 = 5 → ((ob h a0 10) ∧ (∃ rv12, aP h a0 5 = some rv12 ∧ ((ob h rv12 5) ∧ (∃ rv13, aP h rv12 0 = some rv13 ∧ ((ob h rv13 1) ∧ (∃ rv14, aP h rv13 15 = some rv14 ∧ ((ob h rv14 9) ∧ (post h (aI h rv14 0)))))))))) ∧ (x1 = 6 → ((ob h a0 10) ∧ (∃ rv15, aP h a0 5 = some rv15 ∧ ((ob h rv15 5) ∧ (post h (aI h rv15 2)))))) ∧ (x1 = 7 → ((ob h a0 10) ∧ (post h (aI h a0 1)))) ∧ ((x1.toInt < 0 ∨ 7 < x1.toInt) → (post h (-1)))
set_option maxRecDepth 100000 in
theorem c_X11_count (G : GG) (h : AH) (a0 : Nat) (x1 : Int32) (post : AH → Int32 → Prop) (hw : wp_X11_count h a0 x1 post) : MC G yX11_count cX11_count 2 (some .int) 0 0 h [.ref (G.1 + a0), .int x1] (pI post) := by
  refine MC.of (lv := [(0, .ref (G.1 + a0)), (1, .int x1)]) (by decide) (Nat.le_of_ble_eq_true rfl) rfl fun p l e R s m args below meth c C hr hnm => ?_
  unfold wp_X11_count at hw
  refine r_iload_n C dX11_count_0 1 rfl ?_
  by_cases hc0 : x1 = 0
  · replace hw := hw.1 hc0
    refine r_tableIn C dX11_count_1 (by rw [hc0]; decide) (by rw [hc0]; decide) (by rw [hc0]; rfl) 48 (by decide) ?_
    refine r_aload_n C dX11_count_48 0 rfl ?_
    have hob := hw.1
    obtain ⟨rv1, hp, hw⟩ := hw.2
    refine r_getP C fl_RX11_30_10 hob hp (fun _ _ _ => rfl) dX11_count_49 ?_
    have hob := hw.1
    obtain ⟨rv2, hp, hw⟩ := hw.2
    refine r_getP C fl_RX11_40_5 hob hp (fun _ _ _ => rfl) dX11_count_52 ?_
    refine r_getI C fl_RX11_329_1 hw.1 (fun _ _ _ => rfl) dX11_count_55 ?_
    replace hw := hw.2
    exact r_iret C hr dX11_count_58 hw
  by_cases hc1 : x1 = 1
  · replace hw := hw.2.1 hc1
    refine r_tableIn C dX11_count_1 (by rw [hc1]; decide) (by rw [hc1]; decide) (by rw [hc1]; rfl) 59 (by decide) ?_
    refine r_aload_n C dX11_count_59 0 rfl ?_
    have hob := hw.1
    obtain ⟨rv3, hp, hw⟩ := hw.2
    refine r_getP C fl_RX11_30_10 hob hp (fun _ _ _ => rfl) dX11_count_60 ?_
    have hob := hw.1
    obtain ⟨rv4, hp, hw⟩ := hw.2
    refine r_getP C fl_RX11_40_5 hob hp (fun _ _ _ => rfl) dX11_count_63 ?_
    refine r_getI C fl_RX11_332_1 hw.1 (fun _ _ _ => rfl) dX11_count_66 ?_
    replace hw := hw.2
    exact r_iret C hr dX11_count_69 hw
  by_cases hc2 : x1 = 2
  · replace hw := hw.2.2.1 hc2
    refine r_tableIn C dX11_count_1 (by rw [hc2]; decide) (by rw [hc2]; decide) (by rw [hc2]; rfl) 70 (by decide) ?_
    refine r_aload_n C dX11_count_70 0 rfl ?_
    have hob := hw.1
    obtain ⟨rv5, hp, hw⟩ := hw.2
    refine r_getP C fl_RX11_30_10 hob hp (fun _ _ _ => rfl) dX11_count_71 ?_
    have hob := hw.1
    obtain ⟨rv6, hp, hw⟩ := hw.2
    refine r_getP C fl_RX11_40_5 hob hp (fun _ _ _ => rfl) dX11_count_74 ?_
    refine r_getI C fl_RX11_147_1 hw.1 (fun _ _ _ => rfl) dX11_count_77 ?_
    replace hw := hw.2
    exact r_iret C hr dX11_count_80 hw
  by_cases hc3 : x1 = 3
  · replace hw := hw.2.2.2.1 hc3
    refine r_tableIn C dX11_count_1 (by rw [hc3]; decide) (by rw [hc3]; decide) (by rw [hc3]; rfl) 81 (by decide) ?_
    refine r_aload_n C dX11_count_81 0 rfl ?_
    have hob := hw.1
    obtain ⟨rv7, hp, hw⟩ := hw.2
    refine r_getP C fl_RX11_30_10 hob hp (fun _ _ _ => rfl) dX11_count_82 ?_
    have hob := hw.1
    obtain ⟨rv8, hp, hw⟩ := hw.2
    refine r_getP C fl_RX11_40_5 hob hp (fun _ _ _ => rfl) dX11_count_85 ?_
    refine r_getI C fl_RX11_335_1 hw.1 (fun _ _ _ => rfl) dX11_count_88 ?_
    replace hw := hw.2
    exact r_iret C hr dX11_count_91 hw
  by_cases hc4 : x1 = 4
  · replace hw := hw.2.2.2.2.1 hc4
    refine r_tableIn C dX11_count_1 (by rw [hc4]; decide) (by rw [hc4]; decide) (by rw [hc4]; rfl) 92 (by decide) ?_
    refine r_aload_n C dX11_count_92 0 rfl ?_
    have hob := hw.1
    obtain ⟨rv9, hp, hw⟩ := hw.2
    refine r_getP C fl_RX11_30_10 hob hp (fun _ _ _ => rfl) dX11_count_93 ?_
    have hob := hw.1
    obtain ⟨rv10, hp, hw⟩ := hw.2
    refine r_getP C fl_RX11_40_5 hob hp (fun _ _ _ => rfl) dX11_count_96 ?_
    have hob := hw.1
    obtain ⟨rv11, hp, hw⟩ := hw.2
    refine r_getP C fl_RX11_316_1 hob hp (fun _ _ _ => rfl) dX11_count_99 ?_
    refine r_getI C fl_RX11_338_4 hw.1 (fun _ _ _ => rfl) dX11_count_102 ?_
    replace hw := hw.2
    exact r_iret C hr dX11_count_105 hw
  by_cases hc5 : x1 = 5
  · replace hw := hw.2.2.2.2.2.1 hc5
    refine r_tableIn C dX11_count_1 (by rw [hc5]; decide) (by rw [hc5]; decide) (by rw [hc5]; rfl) 106 (by decide) ?_
    refine r_aload_n C dX11_count_106 0 rfl ?_
    have hob := hw.1
    obtain ⟨rv12, hp, hw⟩ := hw.2
    refine r_getP C fl_RX11_30_10 hob hp (fun _ _ _ => rfl) dX11_count_107 ?_
    have hob := hw.1
    obtain ⟨rv13, hp, hw⟩ := hw.2
    refine r_getP C fl_RX11_40_5 hob hp (fun _ _ _ => rfl) dX11_count_110 ?_
    have hob := hw.1
    obtain ⟨rv14, hp, hw⟩ := hw.2
    refine r_getP C fl_RX11_341_1 hob hp (fun _ _ _ => rfl) dX11_count_113 ?_
    refine r_getI C fl_RX11_345_9 hw.1 (fun _ _ _ => rfl) dX11_count_116 ?_
    replace hw := hw.2
    exact r_iret C hr dX11_count_119 hw
  by_cases hc6 : x1 = 6
  · replace hw := hw.2.2.2.2.2.2.1 hc6
    refine r_tableIn C dX11_count_1 (by rw [hc6]; decide) (by rw [hc6]; decide) (by rw [hc6]; rfl) 120 (by decide) ?_
    refine r_aload_n C dX11_count_120 0 rfl ?_
    have hob := hw.1
    obtain ⟨rv15, hp, hw⟩ := hw.2
    refine r_getP C fl_RX11_30_10 hob hp (fun _ _ _ => rfl) dX11_count_121 ?_
    refine r_getI C fl_RX11_212_5 hw.1 (fun _ _ _ => rfl) dX11_count_124 ?_
    replace hw := hw.2
    exact r_iret C hr dX11_count_127 hw
  by_cases hc7 : x1 = 7
  · replace hw := hw.2.2.2.2.2.2.2.1 hc7
    refine r_tableIn C dX11_count_1 (by rw [hc7]; decide) (by rw [hc7]; decide) (by rw [hc7]; rfl) 128 (by decide) ?_
    refine r_aload_n C dX11_count_128 0 rfl ?_
    refine r_getI C fl_RX11_71_10 hw.1 (fun _ _ _ => rfl) dX11_count_129 ?_
    replace hw := hw.2
    exact r_iret C hr dX11_count_132 hw
  have hcd : x1.toInt < 0 ∨ 7 < x1.toInt := sw_out x1 7 (by decide) (fun k hk => match k, hk with | 0, _ => hc0 | 1, _ => hc1 | 2, _ => hc2 | 3, _ => hc3 | 4, _ => hc4 | 5, _ => hc5 | 6, _ => hc6 | 7, _ => hc7 | k + 8, hk => absurd hk (by omega))
  replace hw := hw.2.2.2.2.2.2.2.2 hcd
  refine r_tableOut C dX11_count_1 hcd 133 (by decide) ?_
  refine r_iconst (v := (-1)) C dX11_count_133 (by decide) ?_
  exact r_iret C hr dX11_count_134 hw
theorem dX12_thrown_0 : decode cX12_thrown 0 = .ok (.aload_n 0, 1) := by decide +kernel
theorem dX12_thrown_1 : decode cX12_thrown 1 = .ok (.getfield 1, 3) := by decide +kernel
theorem dX12_thrown_4 : decode cX12_thrown 4 = .ok (.ireturn, 1) := by decide +kernel
def wp_X12_thrown (h : AH) (a0 : Nat) (post : AH → Int32 → Prop) : Prop := (ob h a0 11) ∧ (post h (aI h a0 0))
set_option maxRecDepth 100000 in
theorem c_X12_thrown (G : GG) (h : AH) (a0 : Nat) (post : AH → Int32 → Prop) (hw : wp_X12_thrown h a0 post) : MC G yX12_thrown cX12_thrown 1 (some .int) 0 0 h [.ref (G.1 + a0)] (pI post) := by
  refine MC.of (lv := [(0, .ref (G.1 + a0))]) (by decide) (Nat.le_of_ble_eq_true rfl) rfl fun p l e R s m args below meth c C hr hnm => ?_
  unfold wp_X12_thrown at hw
  refine r_aload_n C dX12_thrown_0 0 rfl ?_
  refine r_getI C fl_RX12_1_11 hw.1 (fun _ _ _ => rfl) dX12_thrown_1 ?_
  replace hw := hw.2
  exact r_iret C hr dX12_thrown_4 hw
theorem dX12_throwsIf_0 : decode cX12_throwsIf 0 = .ok (.aload_n 0, 1) := by decide +kernel
theorem dX12_throwsIf_1 : decode cX12_throwsIf 1 = .ok (.iload_n 1, 1) := by decide +kernel
theorem dX12_throwsIf_2 : decode cX12_throwsIf 2 = .ok (.ifCond .eq 7, 3) := by decide +kernel
theorem dX12_throwsIf_5 : decode cX12_throwsIf 5 = .ok (.iconst 1, 1) := by decide +kernel
theorem dX12_throwsIf_6 : decode cX12_throwsIf 6 = .ok (.goto 4, 3) := by decide +kernel
theorem dX12_throwsIf_9 : decode cX12_throwsIf 9 = .ok (.iconst 0, 1) := by decide +kernel
theorem dX12_throwsIf_10 : decode cX12_throwsIf 10 = .ok (.putfield 1, 3) := by decide +kernel
theorem dX12_throwsIf_13 : decode cX12_throwsIf 13 = .ok (.iload_n 1, 1) := by decide +kernel
theorem dX12_throwsIf_14 : decode cX12_throwsIf 14 = .ok (.ireturn, 1) := by decide +kernel
def wb_X12_throwsIf_10  (h : AH) (xl1 : Int32) (xs0 : Int32) (as1 : Nat) (post : AH → Int32 → Prop) : Prop := (ob h as1 11) ∧ (∀ hv1 : AH, hv1 = hI h as1 0 xs0 → ((xl1 = 0 ∨ xl1 = 1) ∧ post hv1 xl1))
set_option maxRecDepth 100000 in
theorem tb_X12_throwsIf_10 {G : GG} {p : Program} {l : Launch} {e : Env} {R : Room} {s : State} {m : MethodId} {args : Array Value} {below : List Frame} {meth : Method} {c : Code} {n0 s0 : Nat} {post : AH → Int32 → Prop} (C : Cx G p R s m args meth c 2 cX12_throwsIf RX12 n0 s0 0 0) (hr : meth.sig.returnType = (some .boolean))   {h : AH} {xl1 : Int32} {xs0 : Int32} {as1 : Nat} (hw : wb_X12_throwsIf_10  h xl1 xs0 as1 post) : AW G p l e R s m args below meth c 2 (QM G (pI post) args s below n0 s0) 10 [(1, .int xl1)] [.int xs0, .ref (G.1 + as1)] h := by
  unfold wb_X12_throwsIf_10 at hw
  refine r_putI C fp_RX12_1_11 hw.1 rfl dX12_throwsIf_10 ?_
  replace hw := hw.2
  refine r_toph fun hv1 ehv1 => ?_
  replace hw := hw hv1 ehv1
  refine r_iload_n C dX12_throwsIf_13 0 rfl ?_
  exact r_zret C hr dX12_throwsIf_14 hw.1 hw.2
def wp_X12_throwsIf (h : AH) (a0 : Nat) (x1 : Int32) (post : AH → Int32 → Prop) : Prop := (x1 = 0 → (wb_X12_throwsIf_10  h x1 0 a0 post)) ∧ (¬ x1 = 0 → (wb_X12_throwsIf_10  h x1 1 a0 post))
set_option maxRecDepth 100000 in
theorem c_X12_throwsIf (G : GG) (h : AH) (a0 : Nat) (x1 : Int32) (post : AH → Int32 → Prop) (hw : wp_X12_throwsIf h a0 x1 post) : MC G yX12_throwsIf cX12_throwsIf 2 (some .boolean) 0 0 h [.ref (G.1 + a0), .int x1] (pI post) := by
  refine MC.of (lv := [(0, .ref (G.1 + a0)), (1, .int x1)]) (by decide) (Nat.le_of_ble_eq_true rfl) rfl fun p l e R s m args below meth c C hr hnm => ?_
  unfold wp_X12_throwsIf at hw
  refine r_aload_n C dX12_throwsIf_0 0 rfl ?_
  refine r_iload_n C dX12_throwsIf_1 1 rfl ?_
  refine r_if_eq C dX12_throwsIf_2 9 (by decide) (fun hc => ?_) (fun hc => ?_)
  · replace hw := hw.1 hc
    refine r_iconst (v := 0) C dX12_throwsIf_9 (by decide) ?_
    refine r_sub [1] rfl ?_
    exact tb_X12_throwsIf_10 C hr  hw
  · replace hw := hw.2 hc
    refine r_iconst (v := 1) C dX12_throwsIf_5 (by decide) ?_
    refine r_goto C dX12_throwsIf_6 10 (by decide) ?_
    refine r_sub [1] rfl ?_
    exact tb_X12_throwsIf_10 C hr  hw
theorem dX12_four_0 : decode cX12_four 0 = .ok (.bipush 24, 2) := by decide +kernel
theorem dX12_four_2 : decode cX12_four 2 = .ok (.istore_n 2, 1) := by decide +kernel
theorem dX12_four_3 : decode cX12_four 3 = .ok (.iload_n 2, 1) := by decide +kernel
theorem dX12_four_4 : decode cX12_four 4 = .ok (.ifCond .lt 32, 3) := by decide +kernel
theorem dX12_four_7 : decode cX12_four 7 = .ok (.aload_n 0, 1) := by decide +kernel
theorem dX12_four_8 : decode cX12_four 8 = .ok (.getfield 14, 3) := by decide +kernel
theorem dX12_four_11 : decode cX12_four 11 = .ok (.aload_n 0, 1) := by decide +kernel
theorem dX12_four_12 : decode cX12_four 12 = .ok (.getfield 7, 3) := by decide +kernel
theorem dX12_four_15 : decode cX12_four 15 = .ok (.iload_n 1, 1) := by decide +kernel
theorem dX12_four_16 : decode cX12_four 16 = .ok (.iload_n 2, 1) := by decide +kernel
theorem dX12_four_17 : decode cX12_four 17 = .ok (.ishr, 1) := by decide +kernel
theorem dX12_four_18 : decode cX12_four 18 = .ok (.i2b, 1) := by decide +kernel
theorem dX12_four_19 : decode cX12_four 19 = .ok (.bastore, 1) := by decide +kernel
theorem dX12_four_20 : decode cX12_four 20 = .ok (.aload_n 0, 1) := by decide +kernel
theorem dX12_four_21 : decode cX12_four 21 = .ok (.dup, 1) := by decide +kernel
theorem dX12_four_22 : decode cX12_four 22 = .ok (.getfield 7, 3) := by decide +kernel
theorem dX12_four_25 : decode cX12_four 25 = .ok (.iconst 1, 1) := by decide +kernel
theorem dX12_four_26 : decode cX12_four 26 = .ok (.iadd, 1) := by decide +kernel
theorem dX12_four_27 : decode cX12_four 27 = .ok (.putfield 7, 3) := by decide +kernel
theorem dX12_four_30 : decode cX12_four 30 = .ok (.iinc 2 (-8), 3) := by decide +kernel
theorem dX12_four_33 : decode cX12_four 33 = .ok (.goto (-30), 3) := by decide +kernel
theorem dX12_four_36 : decode cX12_four 36 = .ok (.return_, 1) := by decide +kernel
def wb_X12_four_3 (K3 : AH → Nat → Int32 → Int32 → Prop) (h : AH) (al0 : Nat) (xl1 : Int32) (xl2 : Int32)  (post : AH → Prop) : Prop := (xl2 < 0 → (post h)) ∧ (¬ xl2 < 0 → ((ob h al0 11) ∧ (∃ rv1, aP h al0 1 = some rv1 ∧ ((ob h al0 11) ∧ ((ob h rv1 12) ∧ ((vp_in (aI h al0 2) (aL h rv1)) ∧ (∀ hv2 : AH, hv2 = hI h rv1 (aI h al0 2).toNatClampNeg (vp_nar .byte ((xl1 >>> (xl2 &&& 31)).toInt8.toInt32)) → ((ob hv2 al0 11) ∧ ((ob hv2 al0 11) ∧ (∀ hv3 : AH, hv3 = hI hv2 al0 2 ((aI hv2 al0 2) + (1 : Int32)) → (∀ iv4 : Int32, iv4 = xl2 + (-8) → (K3 hv3 al0 xl1 iv4))))))))))))
set_option maxRecDepth 100000 in
theorem tb_X12_four_3 {G : GG} {p : Program} {l : Launch} {e : Env} {R : Room} {s : State} {m : MethodId} {args : Array Value} {below : List Frame} {meth : Method} {c : Code} {n0 s0 : Nat} {post : AH → Prop} (C : Cx G p R s m args meth c 3 cX12_four RX12 n0 s0 0 0) (hr : meth.sig.returnType = none) {K3 : AH → Nat → Int32 → Int32 → Prop} (hK3 : ∀ (h : AH) (al0 : Nat) (xl1 : Int32) (xl2 : Int32), K3 h al0 xl1 xl2 → AW G p l e R s m args below meth c 3 (QM G (pV post) args s below n0 s0) 3 [(0, .ref (G.1 + al0)), (1, .int xl1), (2, .int xl2)] [] h) {h : AH} {al0 : Nat} {xl1 : Int32} {xl2 : Int32}  (hw : wb_X12_four_3 K3 h al0 xl1 xl2 post) : AW G p l e R s m args below meth c 3 (QM G (pV post) args s below n0 s0) 3 [(0, .ref (G.1 + al0)), (1, .int xl1), (2, .int xl2)] [] h := by
  unfold wb_X12_four_3 at hw
  refine r_iload_n C dX12_four_3 2 rfl ?_
  refine r_if_lt C dX12_four_4 36 (by decide) (fun hc => ?_) (fun hc => ?_)
  · replace hw := hw.1 hc
    exact r_vret C hr dX12_four_36 hw
  · replace hw := hw.2 hc
    refine r_aload_n C dX12_four_7 0 rfl ?_
    have hob := hw.1
    obtain ⟨rv1, hp, hw⟩ := hw.2
    refine r_getP C fl_RX12_14_11 hob hp (fun _ _ _ => rfl) dX12_four_8 ?_
    refine r_aload_n C dX12_four_11 0 rfl ?_
    refine r_getI C fl_RX12_7_11 hw.1 (fun _ _ _ => rfl) dX12_four_12 ?_
    replace hw := hw.2
    refine r_iload_n C dX12_four_15 1 rfl ?_
    refine r_iload_n C dX12_four_16 2 rfl ?_
    refine r_ishr C dX12_four_17 ?_
    refine r_i2b C dX12_four_18 ?_
    refine r_bastore C hw.1 hw.2.1 dX12_four_19 ?_
    replace hw := hw.2.2
    refine r_toph fun hv2 ehv2 => ?_
    replace hw := hw hv2 ehv2
    refine r_aload_n C dX12_four_20 0 rfl ?_
    refine r_dup C dX12_four_21 rfl ?_
    refine r_getI C fl_RX12_7_11 hw.1 (fun _ _ _ => rfl) dX12_four_22 ?_
    replace hw := hw.2
    refine r_iconst (v := 1) C dX12_four_25 (by decide) ?_
    refine r_iadd C dX12_four_26 ?_
    refine r_putI C fp_RX12_7_11 hw.1 rfl dX12_four_27 ?_
    replace hw := hw.2
    refine r_toph fun hv3 ehv3 => ?_
    replace hw := hw hv3 ehv3
    obtain ⟨iv4, eiv4⟩ : ∃ q : Int32, q = xl2 + (-8) := ⟨_, rfl⟩
    replace hw := hw iv4 eiv4
    refine r_iinc C dX12_four_30 2 rfl (by rw [eiv4]; rfl) [(2, .int iv4), (0, .ref (G.1 + al0)), (1, .int xl1)] (by decide) rfl ?_
    refine r_goto C dX12_four_33 3 (by decide) ?_
    refine r_sub [1, 2, 0] rfl ?_
    exact hK3 _ _ _ _ hw
def wl_X12_four_3  (post : AH → Prop) : Nat → AH → Nat → Int32 → Int32 → Prop
  | 0 => fun _ _ _ _ => False
  | n + 1 => fun h al0 xl1 xl2 => wb_X12_four_3  (wl_X12_four_3  post n) h al0 xl1 xl2 post
theorem tl_X12_four_3 {G : GG} {p : Program} {l : Launch} {e : Env} {R : Room} {s : State} {m : MethodId} {args : Array Value} {below : List Frame} {meth : Method} {c : Code} {n0 s0 : Nat} {post : AH → Prop} (C : Cx G p R s m args meth c 3 cX12_four RX12 n0 s0 0 0) (hr : meth.sig.returnType = none)   : ∀ (n : Nat) (h : AH) (al0 : Nat) (xl1 : Int32) (xl2 : Int32), wl_X12_four_3  post n h al0 xl1 xl2 → AW G p l e R s m args below meth c 3 (QM G (pV post) args s below n0 s0) 3 [(0, .ref (G.1 + al0)), (1, .int xl1), (2, .int xl2)] [] h := by
  intro n
  induction n with
  | zero => intro h al0 xl1 xl2 hw; exact hw.elim
  | succ n ih => intro h al0 xl1 xl2 hw; exact tb_X12_four_3 C hr  ih hw
def wp_X12_four (h : AH) (a0 : Nat) (x1 : Int32) (post : AH → Prop) : Prop := ∃ n, wl_X12_four_3  post n h a0 x1 24
set_option maxRecDepth 100000 in
theorem c_X12_four (G : GG) (h : AH) (a0 : Nat) (x1 : Int32) (post : AH → Prop) (hw : wp_X12_four h a0 x1 post) : MC G yX12_four cX12_four 3 none 0 0 h [.ref (G.1 + a0), .int x1] (pV post) := by
  refine MC.of (lv := [(0, .ref (G.1 + a0)), (1, .int x1)]) (by decide) (Nat.le_of_ble_eq_true rfl) rfl fun p l e R s m args below meth c C hr hnm => ?_
  unfold wp_X12_four at hw
  refine r_bipush (v := 24) C dX12_four_0 (by decide) ?_
  refine r_istore_n C dX12_four_2 [(2, .int 24), (0, .ref (G.1 + a0)), (1, .int x1)] (by decide) rfl ?_
  refine r_sub [1, 2, 0] rfl ?_
  obtain ⟨n, hw⟩ := hw
  exact tl_X12_four_3 C hr  n _ _ _ _ hw
theorem dX12_feed_0 : decode cX12_feed 0 = .ok (.aload_n 0, 1) := by decide +kernel
theorem dX12_feed_1 : decode cX12_feed 1 = .ok (.iconst 0, 1) := by decide +kernel
theorem dX12_feed_2 : decode cX12_feed 2 = .ok (.putfield 1, 3) := by decide +kernel
theorem dX12_feed_5 : decode cX12_feed 5 = .ok (.aload_n 0, 1) := by decide +kernel
theorem dX12_feed_6 : decode cX12_feed 6 = .ok (.getfield 7, 3) := by decide +kernel
theorem dX12_feed_9 : decode cX12_feed 9 = .ok (.bipush 20, 2) := by decide +kernel
theorem dX12_feed_11 : decode cX12_feed 11 = .ok (.iadd, 1) := by decide +kernel
theorem dX12_feed_12 : decode cX12_feed 12 = .ok (.sipush 940, 3) := by decide +kernel
theorem dX12_feed_15 : decode cX12_feed 15 = .ok (.if_icmp .le 5, 3) := by decide +kernel
theorem dX12_feed_18 : decode cX12_feed 18 = .ok (.iconst (-1), 1) := by decide +kernel
theorem dX12_feed_19 : decode cX12_feed 19 = .ok (.ireturn, 1) := by decide +kernel
theorem dX12_feed_20 : decode cX12_feed 20 = .ok (.aload_n 0, 1) := by decide +kernel
theorem dX12_feed_21 : decode cX12_feed 21 = .ok (.iload_n 1, 1) := by decide +kernel
theorem dX12_feed_22 : decode cX12_feed 22 = .ok (.invokevirtual 10, 3) := by decide +kernel
theorem dX12_feed_25 : decode cX12_feed 25 = .ok (.aload_n 0, 1) := by decide +kernel
theorem dX12_feed_26 : decode cX12_feed 26 = .ok (.iload_n 2, 1) := by decide +kernel
theorem dX12_feed_27 : decode cX12_feed 27 = .ok (.invokevirtual 10, 3) := by decide +kernel
theorem dX12_feed_30 : decode cX12_feed 30 = .ok (.aload_n 0, 1) := by decide +kernel
theorem dX12_feed_31 : decode cX12_feed 31 = .ok (.iload_n 3, 1) := by decide +kernel
theorem dX12_feed_32 : decode cX12_feed 32 = .ok (.invokevirtual 10, 3) := by decide +kernel
theorem dX12_feed_35 : decode cX12_feed 35 = .ok (.aload_n 0, 1) := by decide +kernel
theorem dX12_feed_36 : decode cX12_feed 36 = .ok (.iload 4, 2) := by decide +kernel
theorem dX12_feed_38 : decode cX12_feed 38 = .ok (.invokevirtual 10, 3) := by decide +kernel
theorem dX12_feed_41 : decode cX12_feed 41 = .ok (.aload_n 0, 1) := by decide +kernel
theorem dX12_feed_42 : decode cX12_feed 42 = .ok (.iload 5, 2) := by decide +kernel
theorem dX12_feed_44 : decode cX12_feed 44 = .ok (.invokevirtual 10, 3) := by decide +kernel
theorem dX12_feed_47 : decode cX12_feed 47 = .ok (.aload_n 0, 1) := by decide +kernel
theorem dX12_feed_48 : decode cX12_feed 48 = .ok (.getfield 7, 3) := by decide +kernel
theorem dX12_feed_51 : decode cX12_feed 51 = .ok (.ireturn, 1) := by decide +kernel
def wp_X12_feed (h : AH) (a0 : Nat) (x1 : Int32) (x2 : Int32) (x3 : Int32) (x4 : Int32) (x5 : Int32) (post : AH → Int32 → Prop) : Prop := (ob h a0 11) ∧ (∀ hv1 : AH, hv1 = hI h a0 0 0 → ((ob hv1 a0 11) ∧ ((((aI hv1 a0 2) + (20 : Int32)) ≤ 940 → ((ob hv1 a0 11) ∧ wp_X12_four hv1 a0 x1 (fun hv2  => (ob hv2 a0 11) ∧ wp_X12_four hv2 a0 x2 (fun hv3  => (ob hv3 a0 11) ∧ wp_X12_four hv3 a0 x3 (fun hv4  => (ob hv4 a0 11) ∧ wp_X12_four hv4 a0 x4 (fun hv5  => (ob hv5 a0 11) ∧ wp_X12_four hv5 a0 x5 (fun hv6  => (ob hv6 a0 11) ∧ (post hv6 (aI hv6 a0 2))))))))) ∧ (¬ ((aI hv1 a0 2) + (20 : Int32)) ≤ 940 → (post hv1 (-1))))))
set_option maxRecDepth 100000 in
theorem c_X12_feed (G : GG) (h : AH) (a0 : Nat) (x1 : Int32) (x2 : Int32) (x3 : Int32) (x4 : Int32) (x5 : Int32) (post : AH → Int32 → Prop) (hw : wp_X12_feed h a0 x1 x2 x3 x4 x5 post) : MC G yX12_feed cX12_feed 6 (some .int) 1 22 h [.ref (G.1 + a0), .int x1, .int x2, .int x3, .int x4, .int x5] (pI post) := by
  refine MC.of (lv := [(0, .ref (G.1 + a0)), (1, .int x1), (2, .int x2), (3, .int x3), (4, .int x4), (5, .int x5)]) (by decide) (Nat.le_of_ble_eq_true rfl) rfl fun p l e R s m args below meth c C hr hnm => ?_
  unfold wp_X12_feed at hw
  refine r_aload_n C dX12_feed_0 0 rfl ?_
  refine r_iconst (v := 0) C dX12_feed_1 (by decide) ?_
  refine r_putI C fp_RX12_1_11 hw.1 rfl dX12_feed_2 ?_
  replace hw := hw.2
  refine r_toph fun hv1 ehv1 => ?_
  replace hw := hw hv1 ehv1
  refine r_aload_n C dX12_feed_5 0 rfl ?_
  refine r_getI C fl_RX12_7_11 hw.1 (fun _ _ _ => rfl) dX12_feed_6 ?_
  replace hw := hw.2
  refine r_bipush (v := 20) C dX12_feed_9 (by decide) ?_
  refine r_iadd C dX12_feed_11 ?_
  refine r_sipush (v := 940) C dX12_feed_12 (by decide) ?_
  refine r_icmp_le C dX12_feed_15 20 (by decide) (fun hc => ?_) (fun hc => ?_)
  · replace hw := hw.1 hc
    refine r_aload_n C dX12_feed_20 0 rfl ?_
    refine r_iload_n C dX12_feed_21 1 rfl ?_
    have hob := hw.1
    replace hw := hw.2
    refine r_callV C (As := [.int x1]) (rest := []) (c_X12_four G hv1 a0 x1 _ hw) yl_X12_four (gm6 (List.mem_of_getElem? (i := 185) rfl) rfl) (gm6 (List.mem_of_getElem? (i := 187) rfl) rfl) (ci := 11) rfl (by decide) (gsel (List.mem_of_getElem? (i := 38) rfl)) hob (by decide) rfl (Nat.le_of_ble_eq_true rfl) dX12_feed_22 rfl (kV fun hv2  hw => ?_)
    refine r_aload_n C dX12_feed_25 0 rfl ?_
    refine r_iload_n C dX12_feed_26 2 rfl ?_
    have hob := hw.1
    replace hw := hw.2
    refine r_callV C (As := [.int x2]) (rest := []) (c_X12_four G hv2 a0 x2 _ hw) yl_X12_four (gm6 (List.mem_of_getElem? (i := 185) rfl) rfl) (gm6 (List.mem_of_getElem? (i := 187) rfl) rfl) (ci := 11) rfl (by decide) (gsel (List.mem_of_getElem? (i := 38) rfl)) hob (by decide) rfl (Nat.le_of_ble_eq_true rfl) dX12_feed_27 rfl (kV fun hv3  hw => ?_)
    refine r_aload_n C dX12_feed_30 0 rfl ?_
    refine r_iload_n C dX12_feed_31 3 rfl ?_
    have hob := hw.1
    replace hw := hw.2
    refine r_callV C (As := [.int x3]) (rest := []) (c_X12_four G hv3 a0 x3 _ hw) yl_X12_four (gm6 (List.mem_of_getElem? (i := 185) rfl) rfl) (gm6 (List.mem_of_getElem? (i := 187) rfl) rfl) (ci := 11) rfl (by decide) (gsel (List.mem_of_getElem? (i := 38) rfl)) hob (by decide) rfl (Nat.le_of_ble_eq_true rfl) dX12_feed_32 rfl (kV fun hv4  hw => ?_)
    refine r_aload_n C dX12_feed_35 0 rfl ?_
    refine r_iload C dX12_feed_36 4 rfl ?_
    have hob := hw.1
    replace hw := hw.2
    refine r_callV C (As := [.int x4]) (rest := []) (c_X12_four G hv4 a0 x4 _ hw) yl_X12_four (gm6 (List.mem_of_getElem? (i := 185) rfl) rfl) (gm6 (List.mem_of_getElem? (i := 187) rfl) rfl) (ci := 11) rfl (by decide) (gsel (List.mem_of_getElem? (i := 38) rfl)) hob (by decide) rfl (Nat.le_of_ble_eq_true rfl) dX12_feed_38 rfl (kV fun hv5  hw => ?_)
    refine r_aload_n C dX12_feed_41 0 rfl ?_
    refine r_iload C dX12_feed_42 5 rfl ?_
    have hob := hw.1
    replace hw := hw.2
    refine r_callV C (As := [.int x5]) (rest := []) (c_X12_four G hv5 a0 x5 _ hw) yl_X12_four (gm6 (List.mem_of_getElem? (i := 185) rfl) rfl) (gm6 (List.mem_of_getElem? (i := 187) rfl) rfl) (ci := 11) rfl (by decide) (gsel (List.mem_of_getElem? (i := 38) rfl)) hob (by decide) rfl (Nat.le_of_ble_eq_true rfl) dX12_feed_44 rfl (kV fun hv6  hw => ?_)
    refine r_aload_n C dX12_feed_47 0 rfl ?_
    refine r_getI C fl_RX12_7_11 hw.1 (fun _ _ _ => rfl) dX12_feed_48 ?_
    replace hw := hw.2
    exact r_iret C hr dX12_feed_51 hw
  · replace hw := hw.2 hc
    refine r_iconst (v := (-1)) C dX12_feed_18 (by decide) ?_
    exact r_iret C hr dX12_feed_19 hw
theorem dX12_end_0 : decode cX12_end 0 = .ok (.aload_n 0, 1) := by decide +kernel
theorem dX12_end_1 : decode cX12_end 1 = .ok (.iconst 0, 1) := by decide +kernel
theorem dX12_end_2 : decode cX12_end 2 = .ok (.putfield 1, 3) := by decide +kernel
theorem dX12_end_5 : decode cX12_end 5 = .ok (.iload_n 1, 1) := by decide +kernel
theorem dX12_end_6 : decode cX12_end 6 = .ok (.ifCond .lt 11, 3) := by decide +kernel
theorem dX12_end_9 : decode cX12_end 9 = .ok (.iload_n 1, 1) := by decide +kernel
theorem dX12_end_10 : decode cX12_end 10 = .ok (.aload_n 0, 1) := by decide +kernel
theorem dX12_end_11 : decode cX12_end 11 = .ok (.getfield 7, 3) := by decide +kernel
theorem dX12_end_14 : decode cX12_end 14 = .ok (.if_icmp .le 5, 3) := by decide +kernel
theorem dX12_end_17 : decode cX12_end 17 = .ok (.iconst 0, 1) := by decide +kernel
theorem dX12_end_18 : decode cX12_end 18 = .ok (.ireturn, 1) := by decide +kernel
theorem dX12_end_19 : decode cX12_end 19 = .ok (.aload_n 0, 1) := by decide +kernel
theorem dX12_end_20 : decode cX12_end 20 = .ok (.iload_n 1, 1) := by decide +kernel
theorem dX12_end_21 : decode cX12_end 21 = .ok (.putfield 7, 3) := by decide +kernel
theorem dX12_end_24 : decode cX12_end 24 = .ok (.iconst 1, 1) := by decide +kernel
theorem dX12_end_25 : decode cX12_end 25 = .ok (.ireturn, 1) := by decide +kernel
def wp_X12_end (h : AH) (a0 : Nat) (x1 : Int32) (post : AH → Int32 → Prop) : Prop := (ob h a0 11) ∧ (∀ hv1 : AH, hv1 = hI h a0 0 0 → ((x1 < 0 → (((0 : Int32) = 0 ∨ (0 : Int32) = 1) ∧ post hv1 0)) ∧ (¬ x1 < 0 → ((ob hv1 a0 11) ∧ ((x1 ≤ (aI hv1 a0 2) → ((ob hv1 a0 11) ∧ (∀ hv2 : AH, hv2 = hI hv1 a0 2 x1 → (((1 : Int32) = 0 ∨ (1 : Int32) = 1) ∧ post hv2 1)))) ∧ (¬ x1 ≤ (aI hv1 a0 2) → (((0 : Int32) = 0 ∨ (0 : Int32) = 1) ∧ post hv1 0)))))))
set_option maxRecDepth 100000 in
theorem c_X12_end (G : GG) (h : AH) (a0 : Nat) (x1 : Int32) (post : AH → Int32 → Prop) (hw : wp_X12_end h a0 x1 post) : MC G yX12_end cX12_end 2 (some .boolean) 0 0 h [.ref (G.1 + a0), .int x1] (pI post) := by
  refine MC.of (lv := [(0, .ref (G.1 + a0)), (1, .int x1)]) (by decide) (Nat.le_of_ble_eq_true rfl) rfl fun p l e R s m args below meth c C hr hnm => ?_
  unfold wp_X12_end at hw
  refine r_aload_n C dX12_end_0 0 rfl ?_
  refine r_iconst (v := 0) C dX12_end_1 (by decide) ?_
  refine r_putI C fp_RX12_1_11 hw.1 rfl dX12_end_2 ?_
  replace hw := hw.2
  refine r_toph fun hv1 ehv1 => ?_
  replace hw := hw hv1 ehv1
  refine r_iload_n C dX12_end_5 1 rfl ?_
  refine r_if_lt C dX12_end_6 17 (by decide) (fun hc => ?_) (fun hc => ?_)
  · replace hw := hw.1 hc
    refine r_iconst (v := 0) C dX12_end_17 (by decide) ?_
    exact r_zret C hr dX12_end_18 hw.1 hw.2
  · replace hw := hw.2 hc
    refine r_iload_n C dX12_end_9 1 rfl ?_
    refine r_aload_n C dX12_end_10 0 rfl ?_
    refine r_getI C fl_RX12_7_11 hw.1 (fun _ _ _ => rfl) dX12_end_11 ?_
    replace hw := hw.2
    refine r_icmp_le C dX12_end_14 19 (by decide) (fun hc => ?_) (fun hc => ?_)
    · replace hw := hw.1 hc
      refine r_aload_n C dX12_end_19 0 rfl ?_
      refine r_iload_n C dX12_end_20 1 rfl ?_
      refine r_putI C fp_RX12_7_11 hw.1 rfl dX12_end_21 ?_
      replace hw := hw.2
      refine r_toph fun hv2 ehv2 => ?_
      replace hw := hw hv2 ehv2
      refine r_iconst (v := 1) C dX12_end_24 (by decide) ?_
      exact r_zret C hr dX12_end_25 hw.1 hw.2
    · replace hw := hw.2 hc
      refine r_iconst (v := 0) C dX12_end_17 (by decide) ?_
      exact r_zret C hr dX12_end_18 hw.1 hw.2
theorem dX12_taken_0 : decode cX12_taken 0 = .ok (.aload_n 0, 1) := by decide +kernel
theorem dX12_taken_1 : decode cX12_taken 1 = .ok (.aload_n 0, 1) := by decide +kernel
theorem dX12_taken_2 : decode cX12_taken 2 = .ok (.getfield 7, 3) := by decide +kernel
theorem dX12_taken_5 : decode cX12_taken 5 = .ok (.putfield 18, 3) := by decide +kernel
theorem dX12_taken_8 : decode cX12_taken 8 = .ok (.aload_n 0, 1) := by decide +kernel
theorem dX12_taken_9 : decode cX12_taken 9 = .ok (.iconst 0, 1) := by decide +kernel
theorem dX12_taken_10 : decode cX12_taken 10 = .ok (.putfield 7, 3) := by decide +kernel
theorem dX12_taken_13 : decode cX12_taken 13 = .ok (.aload_n 0, 1) := by decide +kernel
theorem dX12_taken_14 : decode cX12_taken 14 = .ok (.iconst 0, 1) := by decide +kernel
theorem dX12_taken_15 : decode cX12_taken 15 = .ok (.putfield 21, 3) := by decide +kernel
theorem dX12_taken_18 : decode cX12_taken 18 = .ok (.aload_n 0, 1) := by decide +kernel
theorem dX12_taken_19 : decode cX12_taken 19 = .ok (.iload_n 1, 1) := by decide +kernel
theorem dX12_taken_20 : decode cX12_taken 20 = .ok (.putfield 24, 3) := by decide +kernel
theorem dX12_taken_23 : decode cX12_taken 23 = .ok (.return_, 1) := by decide +kernel
def wp_X12_taken (h : AH) (a0 : Nat) (x1 : Int32) (post : AH → Prop) : Prop := (ob h a0 11) ∧ ((ob h a0 11) ∧ (∀ hv1 : AH, hv1 = hI h a0 3 (aI h a0 2) → ((ob hv1 a0 11) ∧ (∀ hv2 : AH, hv2 = hI hv1 a0 2 0 → ((ob hv2 a0 11) ∧ (∀ hv3 : AH, hv3 = hI hv2 a0 4 0 → ((ob hv3 a0 11) ∧ (∀ hv4 : AH, hv4 = hI hv3 a0 5 x1 → (post hv4)))))))))
set_option maxRecDepth 100000 in
theorem c_X12_taken (G : GG) (h : AH) (a0 : Nat) (x1 : Int32) (post : AH → Prop) (hw : wp_X12_taken h a0 x1 post) : MC G yX12_taken cX12_taken 2 none 0 0 h [.ref (G.1 + a0), .int x1] (pV post) := by
  refine MC.of (lv := [(0, .ref (G.1 + a0)), (1, .int x1)]) (by decide) (Nat.le_of_ble_eq_true rfl) rfl fun p l e R s m args below meth c C hr hnm => ?_
  unfold wp_X12_taken at hw
  refine r_aload_n C dX12_taken_0 0 rfl ?_
  refine r_aload_n C dX12_taken_1 0 rfl ?_
  refine r_getI C fl_RX12_7_11 hw.1 (fun _ _ _ => rfl) dX12_taken_2 ?_
  replace hw := hw.2
  refine r_putI C fp_RX12_18_11 hw.1 rfl dX12_taken_5 ?_
  replace hw := hw.2
  refine r_toph fun hv1 ehv1 => ?_
  replace hw := hw hv1 ehv1
  refine r_aload_n C dX12_taken_8 0 rfl ?_
  refine r_iconst (v := 0) C dX12_taken_9 (by decide) ?_
  refine r_putI C fp_RX12_7_11 hw.1 rfl dX12_taken_10 ?_
  replace hw := hw.2
  refine r_toph fun hv2 ehv2 => ?_
  replace hw := hw hv2 ehv2
  refine r_aload_n C dX12_taken_13 0 rfl ?_
  refine r_iconst (v := 0) C dX12_taken_14 (by decide) ?_
  refine r_putI C fp_RX12_21_11 hw.1 rfl dX12_taken_15 ?_
  replace hw := hw.2
  refine r_toph fun hv3 ehv3 => ?_
  replace hw := hw hv3 ehv3
  refine r_aload_n C dX12_taken_18 0 rfl ?_
  refine r_iload_n C dX12_taken_19 1 rfl ?_
  refine r_putI C fp_RX12_24_11 hw.1 rfl dX12_taken_20 ?_
  replace hw := hw.2
  refine r_toph fun hv4 ehv4 => ?_
  replace hw := hw hv4 ehv4
  exact r_vret C hr dX12_taken_23 hw
theorem dX12_isIn_0 : decode cX12_isIn 0 = .ok (.iload_n 0, 1) := by decide +kernel
theorem dX12_isIn_1 : decode cX12_isIn 1 = .ok (.iload_n 1, 1) := by decide +kernel
theorem dX12_isIn_2 : decode cX12_isIn 2 = .ok (.if_icmp .lt 12, 3) := by decide +kernel
theorem dX12_isIn_5 : decode cX12_isIn 5 = .ok (.iload_n 0, 1) := by decide +kernel
theorem dX12_isIn_6 : decode cX12_isIn 6 = .ok (.iload_n 2, 1) := by decide +kernel
theorem dX12_isIn_7 : decode cX12_isIn 7 = .ok (.if_icmp .gt 7, 3) := by decide +kernel
theorem dX12_isIn_10 : decode cX12_isIn 10 = .ok (.iconst 1, 1) := by decide +kernel
theorem dX12_isIn_11 : decode cX12_isIn 11 = .ok (.goto 4, 3) := by decide +kernel
theorem dX12_isIn_14 : decode cX12_isIn 14 = .ok (.iconst 0, 1) := by decide +kernel
theorem dX12_isIn_15 : decode cX12_isIn 15 = .ok (.ireturn, 1) := by decide +kernel
def wp_X12_isIn (h : AH) (x0 : Int32) (x1 : Int32) (x2 : Int32) (post : AH → Int32 → Prop) : Prop := (x0 < x1 → (((0 : Int32) = 0 ∨ (0 : Int32) = 1) ∧ post h 0)) ∧ (¬ x0 < x1 → ((x2 < x0 → (((0 : Int32) = 0 ∨ (0 : Int32) = 1) ∧ post h 0)) ∧ (¬ x2 < x0 → (((1 : Int32) = 0 ∨ (1 : Int32) = 1) ∧ post h 1))))
set_option maxRecDepth 100000 in
theorem c_X12_isIn (G : GG) (h : AH) (x0 : Int32) (x1 : Int32) (x2 : Int32) (post : AH → Int32 → Prop) (hw : wp_X12_isIn h x0 x1 x2 post) : MC G yX12_isIn cX12_isIn 3 (some .boolean) 0 0 h [.int x0, .int x1, .int x2] (pI post) := by
  refine MC.of (lv := [(0, .int x0), (1, .int x1), (2, .int x2)]) (by decide) (Nat.le_of_ble_eq_true rfl) rfl fun p l e R s m args below meth c C hr hnm => ?_
  unfold wp_X12_isIn at hw
  refine r_iload_n C dX12_isIn_0 0 rfl ?_
  refine r_iload_n C dX12_isIn_1 1 rfl ?_
  refine r_icmp_lt C dX12_isIn_2 14 (by decide) (fun hc => ?_) (fun hc => ?_)
  · replace hw := hw.1 hc
    refine r_iconst (v := 0) C dX12_isIn_14 (by decide) ?_
    exact r_zret C hr dX12_isIn_15 hw.1 hw.2
  · replace hw := hw.2 hc
    refine r_iload_n C dX12_isIn_5 0 rfl ?_
    refine r_iload_n C dX12_isIn_6 2 rfl ?_
    refine r_icmp_gt C dX12_isIn_7 14 (by decide) (fun hc => ?_) (fun hc => ?_)
    · replace hw := hw.1 hc
      refine r_iconst (v := 0) C dX12_isIn_14 (by decide) ?_
      exact r_zret C hr dX12_isIn_15 hw.1 hw.2
    · replace hw := hw.2 hc
      refine r_iconst (v := 1) C dX12_isIn_10 (by decide) ?_
      refine r_goto C dX12_isIn_11 15 (by decide) ?_
      exact r_zret C hr dX12_isIn_15 hw.1 hw.2
theorem dX12_has_0 : decode cX12_has 0 = .ok (.iload_n 0, 1) := by decide +kernel
theorem dX12_has_1 : decode cX12_has 1 = .ok (.iload_n 1, 1) := by decide +kernel
theorem dX12_has_2 : decode cX12_has 2 = .ok (.ishr, 1) := by decide +kernel
theorem dX12_has_3 : decode cX12_has 3 = .ok (.iconst 1, 1) := by decide +kernel
theorem dX12_has_4 : decode cX12_has 4 = .ok (.iand, 1) := by decide +kernel
theorem dX12_has_5 : decode cX12_has 5 = .ok (.iconst 1, 1) := by decide +kernel
theorem dX12_has_6 : decode cX12_has 6 = .ok (.if_icmp .ne 7, 3) := by decide +kernel
theorem dX12_has_9 : decode cX12_has 9 = .ok (.iconst 1, 1) := by decide +kernel
theorem dX12_has_10 : decode cX12_has 10 = .ok (.goto 4, 3) := by decide +kernel
theorem dX12_has_13 : decode cX12_has 13 = .ok (.iconst 0, 1) := by decide +kernel
theorem dX12_has_14 : decode cX12_has 14 = .ok (.ireturn, 1) := by decide +kernel
def wp_X12_has (h : AH) (x0 : Int32) (x1 : Int32) (post : AH → Int32 → Prop) : Prop := (¬ ((x0 >>> (x1 &&& 31)) &&& (1 : Int32)) = 1 → (((0 : Int32) = 0 ∨ (0 : Int32) = 1) ∧ post h 0)) ∧ (((x0 >>> (x1 &&& 31)) &&& (1 : Int32)) = 1 → (((1 : Int32) = 0 ∨ (1 : Int32) = 1) ∧ post h 1))
set_option maxRecDepth 100000 in
theorem c_X12_has (G : GG) (h : AH) (x0 : Int32) (x1 : Int32) (post : AH → Int32 → Prop) (hw : wp_X12_has h x0 x1 post) : MC G yX12_has cX12_has 2 (some .boolean) 0 0 h [.int x0, .int x1] (pI post) := by
  refine MC.of (lv := [(0, .int x0), (1, .int x1)]) (by decide) (Nat.le_of_ble_eq_true rfl) rfl fun p l e R s m args below meth c C hr hnm => ?_
  unfold wp_X12_has at hw
  refine r_iload_n C dX12_has_0 0 rfl ?_
  refine r_iload_n C dX12_has_1 1 rfl ?_
  refine r_ishr C dX12_has_2 ?_
  refine r_iconst (v := 1) C dX12_has_3 (by decide) ?_
  refine r_iand C dX12_has_4 ?_
  refine r_iconst (v := 1) C dX12_has_5 (by decide) ?_
  refine r_icmp_ne C dX12_has_6 13 (by decide) (fun hc => ?_) (fun hc => ?_)
  · replace hw := hw.1 hc
    refine r_iconst (v := 0) C dX12_has_13 (by decide) ?_
    exact r_zret C hr dX12_has_14 hw.1 hw.2
  · replace hw := hw.2 hc
    refine r_iconst (v := 1) C dX12_has_9 (by decide) ?_
    refine r_goto C dX12_has_10 14 (by decide) ?_
    exact r_zret C hr dX12_has_14 hw.1 hw.2
theorem dX12_count1_0 : decode cX12_count1 0 = .ok (.iconst 0, 1) := by decide +kernel
theorem dX12_count1_1 : decode cX12_count1 1 = .ok (.istore_n 1, 1) := by decide +kernel
theorem dX12_count1_2 : decode cX12_count1 2 = .ok (.iload_n 0, 1) := by decide +kernel
theorem dX12_count1_3 : decode cX12_count1 3 = .ok (.istore_n 2, 1) := by decide +kernel
theorem dX12_count1_4 : decode cX12_count1 4 = .ok (.iload_n 2, 1) := by decide +kernel
theorem dX12_count1_5 : decode cX12_count1 5 = .ok (.ifCond .eq 15, 3) := by decide +kernel
theorem dX12_count1_8 : decode cX12_count1 8 = .ok (.iinc 1 1, 3) := by decide +kernel
theorem dX12_count1_11 : decode cX12_count1 11 = .ok (.iload_n 2, 1) := by decide +kernel
theorem dX12_count1_12 : decode cX12_count1 12 = .ok (.iload_n 2, 1) := by decide +kernel
theorem dX12_count1_13 : decode cX12_count1 13 = .ok (.iconst 1, 1) := by decide +kernel
theorem dX12_count1_14 : decode cX12_count1 14 = .ok (.isub, 1) := by decide +kernel
theorem dX12_count1_15 : decode cX12_count1 15 = .ok (.iand, 1) := by decide +kernel
theorem dX12_count1_16 : decode cX12_count1 16 = .ok (.istore_n 2, 1) := by decide +kernel
theorem dX12_count1_17 : decode cX12_count1 17 = .ok (.goto (-13), 3) := by decide +kernel
theorem dX12_count1_20 : decode cX12_count1 20 = .ok (.iload_n 1, 1) := by decide +kernel
theorem dX12_count1_21 : decode cX12_count1 21 = .ok (.ireturn, 1) := by decide +kernel
def wb_X12_count1_4 (K4 : AH → Int32 → Int32 → Prop) (h : AH) (xl1 : Int32) (xl2 : Int32)  (post : AH → Int32 → Prop) : Prop := (xl2 = 0 → (post h xl1)) ∧ (¬ xl2 = 0 → (∀ iv1 : Int32, iv1 = xl1 + 1 → (∀ iv2 : Int32, iv2 = xl2 &&& (xl2 - (1 : Int32)) → (K4 h iv1 iv2))))
set_option maxRecDepth 100000 in
theorem tb_X12_count1_4 {G : GG} {p : Program} {l : Launch} {e : Env} {R : Room} {s : State} {m : MethodId} {args : Array Value} {below : List Frame} {meth : Method} {c : Code} {n0 s0 : Nat} {post : AH → Int32 → Prop} (C : Cx G p R s m args meth c 3 cX12_count1 RX12 n0 s0 0 0) (hr : meth.sig.returnType = (some .int)) {K4 : AH → Int32 → Int32 → Prop} (hK4 : ∀ (h : AH) (xl1 : Int32) (xl2 : Int32), K4 h xl1 xl2 → AW G p l e R s m args below meth c 3 (QM G (pI post) args s below n0 s0) 4 [(1, .int xl1), (2, .int xl2)] [] h) {h : AH} {xl1 : Int32} {xl2 : Int32}  (hw : wb_X12_count1_4 K4 h xl1 xl2 post) : AW G p l e R s m args below meth c 3 (QM G (pI post) args s below n0 s0) 4 [(1, .int xl1), (2, .int xl2)] [] h := by
  unfold wb_X12_count1_4 at hw
  refine r_iload_n C dX12_count1_4 1 rfl ?_
  refine r_if_eq C dX12_count1_5 20 (by decide) (fun hc => ?_) (fun hc => ?_)
  · replace hw := hw.1 hc
    refine r_iload_n C dX12_count1_20 0 rfl ?_
    exact r_iret C hr dX12_count1_21 hw
  · replace hw := hw.2 hc
    obtain ⟨iv1, eiv1⟩ : ∃ q : Int32, q = xl1 + 1 := ⟨_, rfl⟩
    replace hw := hw iv1 eiv1
    refine r_iinc C dX12_count1_8 0 rfl (by rw [eiv1]; rfl) [(1, .int iv1), (2, .int xl2)] (by decide) rfl ?_
    refine r_iload_n C dX12_count1_11 1 rfl ?_
    refine r_iload_n C dX12_count1_12 1 rfl ?_
    refine r_iconst (v := 1) C dX12_count1_13 (by decide) ?_
    refine r_isub C dX12_count1_14 ?_
    refine r_iand C dX12_count1_15 ?_
    refine r_topi fun iv2 eiv2 => ?_
    replace hw := hw iv2 eiv2
    refine r_istore_n C dX12_count1_16 [(2, .int iv2), (1, .int iv1)] (by decide) rfl ?_
    refine r_goto C dX12_count1_17 4 (by decide) ?_
    refine r_sub [1, 0] rfl ?_
    exact hK4 _ _ _ hw
def wl_X12_count1_4  (post : AH → Int32 → Prop) : Nat → AH → Int32 → Int32 → Prop
  | 0 => fun _ _ _ => False
  | n + 1 => fun h xl1 xl2 => wb_X12_count1_4  (wl_X12_count1_4  post n) h xl1 xl2 post
theorem tl_X12_count1_4 {G : GG} {p : Program} {l : Launch} {e : Env} {R : Room} {s : State} {m : MethodId} {args : Array Value} {below : List Frame} {meth : Method} {c : Code} {n0 s0 : Nat} {post : AH → Int32 → Prop} (C : Cx G p R s m args meth c 3 cX12_count1 RX12 n0 s0 0 0) (hr : meth.sig.returnType = (some .int))   : ∀ (n : Nat) (h : AH) (xl1 : Int32) (xl2 : Int32), wl_X12_count1_4  post n h xl1 xl2 → AW G p l e R s m args below meth c 3 (QM G (pI post) args s below n0 s0) 4 [(1, .int xl1), (2, .int xl2)] [] h := by
  intro n
  induction n with
  | zero => intro h xl1 xl2 hw; exact hw.elim
  | succ n ih => intro h xl1 xl2 hw; exact tb_X12_count1_4 C hr  ih hw
def wp_X12_count1 (h : AH) (x0 : Int32) (post : AH → Int32 → Prop) : Prop := ∃ n, wl_X12_count1_4  post n h 0 x0
set_option maxRecDepth 100000 in
theorem c_X12_count1 (G : GG) (h : AH) (x0 : Int32) (post : AH → Int32 → Prop) (hw : wp_X12_count1 h x0 post) : MC G yX12_count1 cX12_count1 3 (some .int) 0 0 h [.int x0] (pI post) := by
  refine MC.of (lv := [(0, .int x0)]) (by decide) (Nat.le_of_ble_eq_true rfl) rfl fun p l e R s m args below meth c C hr hnm => ?_
  unfold wp_X12_count1 at hw
  refine r_iconst (v := 0) C dX12_count1_0 (by decide) ?_
  refine r_istore_n C dX12_count1_1 [(1, .int 0), (0, .int x0)] (by decide) rfl ?_
  refine r_iload_n C dX12_count1_2 1 rfl ?_
  refine r_istore_n C dX12_count1_3 [(2, .int x0), (1, .int 0), (0, .int x0)] (by decide) rfl ?_
  refine r_sub [1, 0] rfl ?_
  obtain ⟨n, hw⟩ := hw
  exact tl_X12_count1_4 C hr  n _ _ _ hw
theorem dX12_octet_0 : decode cX12_octet 0 = .ok (.aload_n 0, 1) := by decide +kernel
theorem dX12_octet_1 : decode cX12_octet 1 = .ok (.getfield 14, 3) := by decide +kernel
theorem dX12_octet_4 : decode cX12_octet 4 = .ok (.iload_n 1, 1) := by decide +kernel
theorem dX12_octet_5 : decode cX12_octet 5 = .ok (.baload, 1) := by decide +kernel
theorem dX12_octet_6 : decode cX12_octet 6 = .ok (.sipush 255, 3) := by decide +kernel
theorem dX12_octet_9 : decode cX12_octet 9 = .ok (.iand, 1) := by decide +kernel
theorem dX12_octet_10 : decode cX12_octet 10 = .ok (.ireturn, 1) := by decide +kernel
def wp_X12_octet (h : AH) (a0 : Nat) (x1 : Int32) (post : AH → Int32 → Prop) : Prop := (ob h a0 11) ∧ (∃ rv1, aP h a0 1 = some rv1 ∧ ((ob h rv1 12) ∧ ((vp_in x1 (aL h rv1)) ∧ (post h ((aI h rv1 x1.toNatClampNeg) &&& (255 : Int32))))))
set_option maxRecDepth 100000 in
theorem c_X12_octet (G : GG) (h : AH) (a0 : Nat) (x1 : Int32) (post : AH → Int32 → Prop) (hw : wp_X12_octet h a0 x1 post) : MC G yX12_octet cX12_octet 2 (some .int) 0 0 h [.ref (G.1 + a0), .int x1] (pI post) := by
  refine MC.of (lv := [(0, .ref (G.1 + a0)), (1, .int x1)]) (by decide) (Nat.le_of_ble_eq_true rfl) rfl fun p l e R s m args below meth c C hr hnm => ?_
  unfold wp_X12_octet at hw
  refine r_aload_n C dX12_octet_0 0 rfl ?_
  have hob := hw.1
  obtain ⟨rv1, hp, hw⟩ := hw.2
  refine r_getP C fl_RX12_14_11 hob hp (fun _ _ _ => rfl) dX12_octet_1 ?_
  refine r_iload_n C dX12_octet_4 1 rfl ?_
  refine r_baload C hw.1 hw.2.1 dX12_octet_5 ?_
  replace hw := hw.2.2
  refine r_sipush (v := 255) C dX12_octet_6 (by decide) ?_
  refine r_iand C dX12_octet_9 ?_
  exact r_iret C hr dX12_octet_10 hw
theorem dX12_plainLagoon_0 : decode cX12_plainLagoon 0 = .ok (.iconst 0, 1) := by decide +kernel
theorem dX12_plainLagoon_1 : decode cX12_plainLagoon 1 = .ok (.istore_n 1, 1) := by decide +kernel
theorem dX12_plainLagoon_2 : decode cX12_plainLagoon 2 = .ok (.iload_n 1, 1) := by decide +kernel
theorem dX12_plainLagoon_3 : decode cX12_plainLagoon 3 = .ok (.sipush 250, 3) := by decide +kernel
theorem dX12_plainLagoon_6 : decode cX12_plainLagoon 6 = .ok (.if_icmp .ge 16, 3) := by decide +kernel
theorem dX12_plainLagoon_9 : decode cX12_plainLagoon 9 = .ok (.aload_n 0, 1) := by decide +kernel
theorem dX12_plainLagoon_10 : decode cX12_plainLagoon 10 = .ok (.getfield 37, 3) := by decide +kernel
theorem dX12_plainLagoon_13 : decode cX12_plainLagoon 13 = .ok (.iload_n 1, 1) := by decide +kernel
theorem dX12_plainLagoon_14 : decode cX12_plainLagoon 14 = .ok (.iconst 0, 1) := by decide +kernel
theorem dX12_plainLagoon_15 : decode cX12_plainLagoon 15 = .ok (.iastore, 1) := by decide +kernel
theorem dX12_plainLagoon_16 : decode cX12_plainLagoon 16 = .ok (.iinc 1 1, 3) := by decide +kernel
theorem dX12_plainLagoon_19 : decode cX12_plainLagoon 19 = .ok (.goto (-17), 3) := by decide +kernel
theorem dX12_plainLagoon_22 : decode cX12_plainLagoon 22 = .ok (.iconst 0, 1) := by decide +kernel
theorem dX12_plainLagoon_23 : decode cX12_plainLagoon 23 = .ok (.istore_n 1, 1) := by decide +kernel
theorem dX12_plainLagoon_24 : decode cX12_plainLagoon 24 = .ok (.iload_n 1, 1) := by decide +kernel
theorem dX12_plainLagoon_25 : decode cX12_plainLagoon 25 = .ok (.bipush 24, 2) := by decide +kernel
theorem dX12_plainLagoon_27 : decode cX12_plainLagoon 27 = .ok (.if_icmp .ge 19, 3) := by decide +kernel
theorem dX12_plainLagoon_30 : decode cX12_plainLagoon 30 = .ok (.aload_n 0, 1) := by decide +kernel
theorem dX12_plainLagoon_31 : decode cX12_plainLagoon 31 = .ok (.getfield 37, 3) := by decide +kernel
theorem dX12_plainLagoon_34 : decode cX12_plainLagoon 34 = .ok (.bipush 75, 2) := by decide +kernel
theorem dX12_plainLagoon_36 : decode cX12_plainLagoon 36 = .ok (.iload_n 1, 1) := by decide +kernel
theorem dX12_plainLagoon_37 : decode cX12_plainLagoon 37 = .ok (.iadd, 1) := by decide +kernel
theorem dX12_plainLagoon_38 : decode cX12_plainLagoon 38 = .ok (.iconst 5, 1) := by decide +kernel
theorem dX12_plainLagoon_39 : decode cX12_plainLagoon 39 = .ok (.iastore, 1) := by decide +kernel
theorem dX12_plainLagoon_40 : decode cX12_plainLagoon 40 = .ok (.iinc 1 1, 3) := by decide +kernel
theorem dX12_plainLagoon_43 : decode cX12_plainLagoon 43 = .ok (.goto (-19), 3) := by decide +kernel
theorem dX12_plainLagoon_46 : decode cX12_plainLagoon 46 = .ok (.return_, 1) := by decide +kernel
def wb_X12_plainLagoon_24 (K24 : AH → Nat → Int32 → Prop) (h : AH) (al0 : Nat) (xl1 : Int32)  (post : AH → Prop) : Prop := (24 ≤ xl1 → (post h)) ∧ (¬ 24 ≤ xl1 → ((ob h al0 11) ∧ (∃ rv1, aP h al0 7 = some rv1 ∧ ((ob h rv1 13) ∧ ((vp_in ((75 : Int32) + xl1) (aL h rv1)) ∧ (∀ hv2 : AH, hv2 = hI h rv1 ((75 : Int32) + xl1).toNatClampNeg 5 → (∀ iv3 : Int32, iv3 = xl1 + 1 → (K24 hv2 al0 iv3))))))))
set_option maxRecDepth 100000 in
theorem tb_X12_plainLagoon_24 {G : GG} {p : Program} {l : Launch} {e : Env} {R : Room} {s : State} {m : MethodId} {args : Array Value} {below : List Frame} {meth : Method} {c : Code} {n0 s0 : Nat} {post : AH → Prop} (C : Cx G p R s m args meth c 2 cX12_plainLagoon RX12 n0 s0 0 0) (hr : meth.sig.returnType = none) {K24 : AH → Nat → Int32 → Prop} (hK24 : ∀ (h : AH) (al0 : Nat) (xl1 : Int32), K24 h al0 xl1 → AW G p l e R s m args below meth c 2 (QM G (pV post) args s below n0 s0) 24 [(0, .ref (G.1 + al0)), (1, .int xl1)] [] h) {h : AH} {al0 : Nat} {xl1 : Int32}  (hw : wb_X12_plainLagoon_24 K24 h al0 xl1 post) : AW G p l e R s m args below meth c 2 (QM G (pV post) args s below n0 s0) 24 [(0, .ref (G.1 + al0)), (1, .int xl1)] [] h := by
  unfold wb_X12_plainLagoon_24 at hw
  refine r_iload_n C dX12_plainLagoon_24 1 rfl ?_
  refine r_bipush (v := 24) C dX12_plainLagoon_25 (by decide) ?_
  refine r_icmp_ge C dX12_plainLagoon_27 46 (by decide) (fun hc => ?_) (fun hc => ?_)
  · replace hw := hw.1 hc
    exact r_vret C hr dX12_plainLagoon_46 hw
  · replace hw := hw.2 hc
    refine r_aload_n C dX12_plainLagoon_30 0 rfl ?_
    have hob := hw.1
    obtain ⟨rv1, hp, hw⟩ := hw.2
    refine r_getP C fl_RX12_37_11 hob hp (fun _ _ _ => rfl) dX12_plainLagoon_31 ?_
    refine r_bipush (v := 75) C dX12_plainLagoon_34 (by decide) ?_
    refine r_iload_n C dX12_plainLagoon_36 1 rfl ?_
    refine r_iadd C dX12_plainLagoon_37 ?_
    refine r_iconst (v := 5) C dX12_plainLagoon_38 (by decide) ?_
    refine r_iastore C hw.1 hw.2.1 dX12_plainLagoon_39 ?_
    replace hw := hw.2.2
    refine r_toph fun hv2 ehv2 => ?_
    replace hw := hw hv2 ehv2
    obtain ⟨iv3, eiv3⟩ : ∃ q : Int32, q = xl1 + 1 := ⟨_, rfl⟩
    replace hw := hw iv3 eiv3
    refine r_iinc C dX12_plainLagoon_40 1 rfl (by rw [eiv3]; rfl) [(1, .int iv3), (0, .ref (G.1 + al0))] (by decide) rfl ?_
    refine r_goto C dX12_plainLagoon_43 24 (by decide) ?_
    refine r_sub [1, 0] rfl ?_
    exact hK24 _ _ _ hw
def wl_X12_plainLagoon_24  (post : AH → Prop) : Nat → AH → Nat → Int32 → Prop
  | 0 => fun _ _ _ => False
  | n + 1 => fun h al0 xl1 => wb_X12_plainLagoon_24  (wl_X12_plainLagoon_24  post n) h al0 xl1 post
theorem tl_X12_plainLagoon_24 {G : GG} {p : Program} {l : Launch} {e : Env} {R : Room} {s : State} {m : MethodId} {args : Array Value} {below : List Frame} {meth : Method} {c : Code} {n0 s0 : Nat} {post : AH → Prop} (C : Cx G p R s m args meth c 2 cX12_plainLagoon RX12 n0 s0 0 0) (hr : meth.sig.returnType = none)   : ∀ (n : Nat) (h : AH) (al0 : Nat) (xl1 : Int32), wl_X12_plainLagoon_24  post n h al0 xl1 → AW G p l e R s m args below meth c 2 (QM G (pV post) args s below n0 s0) 24 [(0, .ref (G.1 + al0)), (1, .int xl1)] [] h := by
  intro n
  induction n with
  | zero => intro h al0 xl1 hw; exact hw.elim
  | succ n ih => intro h al0 xl1 hw; exact tb_X12_plainLagoon_24 C hr  ih hw
def wb_X12_plainLagoon_2 (K2 : AH → Nat → Int32 → Prop) (h : AH) (al0 : Nat) (xl1 : Int32)  (post : AH → Prop) : Prop := (250 ≤ xl1 → (∃ n, wl_X12_plainLagoon_24  post n h al0 0)) ∧ (¬ 250 ≤ xl1 → ((ob h al0 11) ∧ (∃ rv1, aP h al0 7 = some rv1 ∧ ((ob h rv1 13) ∧ ((vp_in xl1 (aL h rv1)) ∧ (∀ hv2 : AH, hv2 = hI h rv1 xl1.toNatClampNeg 0 → (∀ iv3 : Int32, iv3 = xl1 + 1 → (K2 hv2 al0 iv3))))))))
set_option maxRecDepth 100000 in
theorem tb_X12_plainLagoon_2 {G : GG} {p : Program} {l : Launch} {e : Env} {R : Room} {s : State} {m : MethodId} {args : Array Value} {below : List Frame} {meth : Method} {c : Code} {n0 s0 : Nat} {post : AH → Prop} (C : Cx G p R s m args meth c 2 cX12_plainLagoon RX12 n0 s0 0 0) (hr : meth.sig.returnType = none) {K2 : AH → Nat → Int32 → Prop} (hK2 : ∀ (h : AH) (al0 : Nat) (xl1 : Int32), K2 h al0 xl1 → AW G p l e R s m args below meth c 2 (QM G (pV post) args s below n0 s0) 2 [(0, .ref (G.1 + al0)), (1, .int xl1)] [] h) {h : AH} {al0 : Nat} {xl1 : Int32}  (hw : wb_X12_plainLagoon_2 K2 h al0 xl1 post) : AW G p l e R s m args below meth c 2 (QM G (pV post) args s below n0 s0) 2 [(0, .ref (G.1 + al0)), (1, .int xl1)] [] h := by
  unfold wb_X12_plainLagoon_2 at hw
  refine r_iload_n C dX12_plainLagoon_2 1 rfl ?_
  refine r_sipush (v := 250) C dX12_plainLagoon_3 (by decide) ?_
  refine r_icmp_ge C dX12_plainLagoon_6 22 (by decide) (fun hc => ?_) (fun hc => ?_)
  · replace hw := hw.1 hc
    refine r_iconst (v := 0) C dX12_plainLagoon_22 (by decide) ?_
    refine r_istore_n C dX12_plainLagoon_23 [(1, .int 0), (0, .ref (G.1 + al0))] (by decide) rfl ?_
    refine r_sub [1, 0] rfl ?_
    obtain ⟨n, hw⟩ := hw
    exact tl_X12_plainLagoon_24 C hr  n _ _ _ hw
  · replace hw := hw.2 hc
    refine r_aload_n C dX12_plainLagoon_9 0 rfl ?_
    have hob := hw.1
    obtain ⟨rv1, hp, hw⟩ := hw.2
    refine r_getP C fl_RX12_37_11 hob hp (fun _ _ _ => rfl) dX12_plainLagoon_10 ?_
    refine r_iload_n C dX12_plainLagoon_13 1 rfl ?_
    refine r_iconst (v := 0) C dX12_plainLagoon_14 (by decide) ?_
    refine r_iastore C hw.1 hw.2.1 dX12_plainLagoon_15 ?_
    replace hw := hw.2.2
    refine r_toph fun hv2 ehv2 => ?_
    replace hw := hw hv2 ehv2
    obtain ⟨iv3, eiv3⟩ : ∃ q : Int32, q = xl1 + 1 := ⟨_, rfl⟩
    replace hw := hw iv3 eiv3
    refine r_iinc C dX12_plainLagoon_16 1 rfl (by rw [eiv3]; rfl) [(1, .int iv3), (0, .ref (G.1 + al0))] (by decide) rfl ?_
    refine r_goto C dX12_plainLagoon_19 2 (by decide) ?_
    refine r_sub [1, 0] rfl ?_
    exact hK2 _ _ _ hw
def wl_X12_plainLagoon_2  (post : AH → Prop) : Nat → AH → Nat → Int32 → Prop
  | 0 => fun _ _ _ => False
  | n + 1 => fun h al0 xl1 => wb_X12_plainLagoon_2  (wl_X12_plainLagoon_2  post n) h al0 xl1 post
theorem tl_X12_plainLagoon_2 {G : GG} {p : Program} {l : Launch} {e : Env} {R : Room} {s : State} {m : MethodId} {args : Array Value} {below : List Frame} {meth : Method} {c : Code} {n0 s0 : Nat} {post : AH → Prop} (C : Cx G p R s m args meth c 2 cX12_plainLagoon RX12 n0 s0 0 0) (hr : meth.sig.returnType = none)   : ∀ (n : Nat) (h : AH) (al0 : Nat) (xl1 : Int32), wl_X12_plainLagoon_2  post n h al0 xl1 → AW G p l e R s m args below meth c 2 (QM G (pV post) args s below n0 s0) 2 [(0, .ref (G.1 + al0)), (1, .int xl1)] [] h := by
  intro n
  induction n with
  | zero => intro h al0 xl1 hw; exact hw.elim
  | succ n ih => intro h al0 xl1 hw; exact tb_X12_plainLagoon_2 C hr  ih hw
def wp_X12_plainLagoon (h : AH) (a0 : Nat) (post : AH → Prop) : Prop := ∃ n, wl_X12_plainLagoon_2  post n h a0 0
set_option maxRecDepth 100000 in
theorem c_X12_plainLagoon (G : GG) (h : AH) (a0 : Nat) (post : AH → Prop) (hw : wp_X12_plainLagoon h a0 post) : MC G yX12_plainLagoon cX12_plainLagoon 2 none 0 0 h [.ref (G.1 + a0)] (pV post) := by
  refine MC.of (lv := [(0, .ref (G.1 + a0))]) (by decide) (Nat.le_of_ble_eq_true rfl) rfl fun p l e R s m args below meth c C hr hnm => ?_
  unfold wp_X12_plainLagoon at hw
  refine r_iconst (v := 0) C dX12_plainLagoon_0 (by decide) ?_
  refine r_istore_n C dX12_plainLagoon_1 [(1, .int 0), (0, .ref (G.1 + a0))] (by decide) rfl ?_
  refine r_sub [1, 0] rfl ?_
  obtain ⟨n, hw⟩ := hw
  exact tl_X12_plainLagoon_2 C hr  n _ _ _ hw
theorem dX12_init_0 : decode cX12_init 0 = .ok (.aload_n 0, 1) := by decide +kernel
theorem dX12_init_1 : decode cX12_init 1 = .ok (.invokespecial 27, 3) := by decide +kernel
theorem dX12_init_4 : decode cX12_init 4 = .ok (.aload_n 0, 1) := by decide +kernel
theorem dX12_init_5 : decode cX12_init 5 = .ok (.sipush 940, 3) := by decide +kernel
theorem dX12_init_8 : decode cX12_init 8 = .ok (.newarray .byte, 2) := by decide +kernel
theorem dX12_init_10 : decode cX12_init 10 = .ok (.putfield 14, 3) := by decide +kernel
theorem dX12_init_13 : decode cX12_init 13 = .ok (.aload_n 0, 1) := by decide +kernel
theorem dX12_init_14 : decode cX12_init 14 = .ok (.sipush 370, 3) := by decide +kernel
theorem dX12_init_17 : decode cX12_init 17 = .ok (.newarray .int, 2) := by decide +kernel
theorem dX12_init_19 : decode cX12_init 19 = .ok (.putfield 33, 3) := by decide +kernel
theorem dX12_init_22 : decode cX12_init 22 = .ok (.aload_n 0, 1) := by decide +kernel
theorem dX12_init_23 : decode cX12_init 23 = .ok (.sipush 250, 3) := by decide +kernel
theorem dX12_init_26 : decode cX12_init 26 = .ok (.newarray .int, 2) := by decide +kernel
theorem dX12_init_28 : decode cX12_init 28 = .ok (.putfield 37, 3) := by decide +kernel
theorem dX12_init_31 : decode cX12_init 31 = .ok (.aload_n 0, 1) := by decide +kernel
theorem dX12_init_32 : decode cX12_init 32 = .ok (.bipush 120, 2) := by decide +kernel
theorem dX12_init_34 : decode cX12_init 34 = .ok (.newarray .int, 2) := by decide +kernel
theorem dX12_init_36 : decode cX12_init 36 = .ok (.putfield 40, 3) := by decide +kernel
theorem dX12_init_39 : decode cX12_init 39 = .ok (.aload_n 0, 1) := by decide +kernel
theorem dX12_init_40 : decode cX12_init 40 = .ok (.bipush 16, 2) := by decide +kernel
theorem dX12_init_42 : decode cX12_init 42 = .ok (.newarray .long, 2) := by decide +kernel
theorem dX12_init_44 : decode cX12_init 44 = .ok (.putfield 43, 3) := by decide +kernel
theorem dX12_init_47 : decode cX12_init 47 = .ok (.aload_n 0, 1) := by decide +kernel
theorem dX12_init_48 : decode cX12_init 48 = .ok (.bipush 18, 2) := by decide +kernel
theorem dX12_init_50 : decode cX12_init 50 = .ok (.newarray .long, 2) := by decide +kernel
theorem dX12_init_52 : decode cX12_init 52 = .ok (.putfield 47, 3) := by decide +kernel
theorem dX12_init_55 : decode cX12_init 55 = .ok (.aload_n 0, 1) := by decide +kernel
theorem dX12_init_56 : decode cX12_init 56 = .ok (.bipush 24, 2) := by decide +kernel
theorem dX12_init_58 : decode cX12_init 58 = .ok (.newarray .int, 2) := by decide +kernel
theorem dX12_init_60 : decode cX12_init 60 = .ok (.putfield 50, 3) := by decide +kernel
theorem dX12_init_63 : decode cX12_init 63 = .ok (.aload_n 0, 1) := by decide +kernel
theorem dX12_init_64 : decode cX12_init 64 = .ok (.bipush 24, 2) := by decide +kernel
theorem dX12_init_66 : decode cX12_init 66 = .ok (.newarray .int, 2) := by decide +kernel
theorem dX12_init_68 : decode cX12_init 68 = .ok (.putfield 53, 3) := by decide +kernel
theorem dX12_init_71 : decode cX12_init 71 = .ok (.aload_n 0, 1) := by decide +kernel
theorem dX12_init_72 : decode cX12_init 72 = .ok (.bipush 24, 2) := by decide +kernel
theorem dX12_init_74 : decode cX12_init 74 = .ok (.newarray .int, 2) := by decide +kernel
theorem dX12_init_76 : decode cX12_init 76 = .ok (.putfield 56, 3) := by decide +kernel
theorem dX12_init_79 : decode cX12_init 79 = .ok (.aload_n 0, 1) := by decide +kernel
theorem dX12_init_80 : decode cX12_init 80 = .ok (.iconst 5, 1) := by decide +kernel
theorem dX12_init_81 : decode cX12_init 81 = .ok (.newarray .int, 2) := by decide +kernel
theorem dX12_init_83 : decode cX12_init 83 = .ok (.putfield 59, 3) := by decide +kernel
theorem dX12_init_86 : decode cX12_init 86 = .ok (.aload_n 0, 1) := by decide +kernel
theorem dX12_init_87 : decode cX12_init 87 = .ok (.bipush 24, 2) := by decide +kernel
theorem dX12_init_89 : decode cX12_init 89 = .ok (.newarray .int, 2) := by decide +kernel
theorem dX12_init_91 : decode cX12_init 91 = .ok (.putfield 62, 3) := by decide +kernel
theorem dX12_init_94 : decode cX12_init 94 = .ok (.aload_n 0, 1) := by decide +kernel
theorem dX12_init_95 : decode cX12_init 95 = .ok (.iconst (-1), 1) := by decide +kernel
theorem dX12_init_96 : decode cX12_init 96 = .ok (.putfield 65, 3) := by decide +kernel
theorem dX12_init_99 : decode cX12_init 99 = .ok (.aload_n 0, 1) := by decide +kernel
theorem dX12_init_100 : decode cX12_init 100 = .ok (.ldc 68, 2) := by decide +kernel
theorem dX12_init_102 : decode cX12_init 102 = .ok (.newarray .int, 2) := by decide +kernel
theorem dX12_init_104 : decode cX12_init 104 = .ok (.putfield 69, 3) := by decide +kernel
theorem dX12_init_107 : decode cX12_init 107 = .ok (.aload_n 0, 1) := by decide +kernel
theorem dX12_init_108 : decode cX12_init 108 = .ok (.ldc 68, 2) := by decide +kernel
theorem dX12_init_110 : decode cX12_init 110 = .ok (.newarray .int, 2) := by decide +kernel
theorem dX12_init_112 : decode cX12_init 112 = .ok (.putfield 72, 3) := by decide +kernel
theorem dX12_init_115 : decode cX12_init 115 = .ok (.aload_n 0, 1) := by decide +kernel
theorem dX12_init_116 : decode cX12_init 116 = .ok (.ldc 68, 2) := by decide +kernel
theorem dX12_init_118 : decode cX12_init 118 = .ok (.newarray .int, 2) := by decide +kernel
theorem dX12_init_120 : decode cX12_init 120 = .ok (.putfield 75, 3) := by decide +kernel
theorem dX12_init_123 : decode cX12_init 123 = .ok (.aload_n 0, 1) := by decide +kernel
theorem dX12_init_124 : decode cX12_init 124 = .ok (.ldc 68, 2) := by decide +kernel
theorem dX12_init_126 : decode cX12_init 126 = .ok (.newarray .int, 2) := by decide +kernel
theorem dX12_init_128 : decode cX12_init 128 = .ok (.putfield 78, 3) := by decide +kernel
theorem dX12_init_131 : decode cX12_init 131 = .ok (.aload_n 0, 1) := by decide +kernel
theorem dX12_init_132 : decode cX12_init 132 = .ok (.ldc 68, 2) := by decide +kernel
theorem dX12_init_134 : decode cX12_init 134 = .ok (.newarray .int, 2) := by decide +kernel
theorem dX12_init_136 : decode cX12_init 136 = .ok (.putfield 81, 3) := by decide +kernel
theorem dX12_init_139 : decode cX12_init 139 = .ok (.aload_n 0, 1) := by decide +kernel
theorem dX12_init_140 : decode cX12_init 140 = .ok (.sipush 128, 3) := by decide +kernel
theorem dX12_init_143 : decode cX12_init 143 = .ok (.newarray .int, 2) := by decide +kernel
theorem dX12_init_145 : decode cX12_init 145 = .ok (.putfield 84, 3) := by decide +kernel
theorem dX12_init_148 : decode cX12_init 148 = .ok (.aload_n 0, 1) := by decide +kernel
theorem dX12_init_149 : decode cX12_init 149 = .ok (.sipush 128, 3) := by decide +kernel
theorem dX12_init_152 : decode cX12_init 152 = .ok (.newarray .int, 2) := by decide +kernel
theorem dX12_init_154 : decode cX12_init 154 = .ok (.putfield 87, 3) := by decide +kernel
theorem dX12_init_157 : decode cX12_init 157 = .ok (.aload_n 0, 1) := by decide +kernel
theorem dX12_init_158 : decode cX12_init 158 = .ok (.sipush 128, 3) := by decide +kernel
theorem dX12_init_161 : decode cX12_init 161 = .ok (.newarray .int, 2) := by decide +kernel
theorem dX12_init_163 : decode cX12_init 163 = .ok (.putfield 90, 3) := by decide +kernel
theorem dX12_init_166 : decode cX12_init 166 = .ok (.aload_n 0, 1) := by decide +kernel
theorem dX12_init_167 : decode cX12_init 167 = .ok (.sipush 128, 3) := by decide +kernel
theorem dX12_init_170 : decode cX12_init 170 = .ok (.newarray .int, 2) := by decide +kernel
theorem dX12_init_172 : decode cX12_init 172 = .ok (.putfield 93, 3) := by decide +kernel
theorem dX12_init_175 : decode cX12_init 175 = .ok (.aload_n 0, 1) := by decide +kernel
theorem dX12_init_176 : decode cX12_init 176 = .ok (.iconst 3, 1) := by decide +kernel
theorem dX12_init_177 : decode cX12_init 177 = .ok (.newarray .int, 2) := by decide +kernel
theorem dX12_init_179 : decode cX12_init 179 = .ok (.putfield 96, 3) := by decide +kernel
theorem dX12_init_182 : decode cX12_init 182 = .ok (.aload_n 0, 1) := by decide +kernel
theorem dX12_init_183 : decode cX12_init 183 = .ok (.bipush 24, 2) := by decide +kernel
theorem dX12_init_185 : decode cX12_init 185 = .ok (.newarray .int, 2) := by decide +kernel
theorem dX12_init_187 : decode cX12_init 187 = .ok (.putfield 99, 3) := by decide +kernel
theorem dX12_init_190 : decode cX12_init 190 = .ok (.aload_n 0, 1) := by decide +kernel
theorem dX12_init_191 : decode cX12_init 191 = .ok (.iconst (-1), 1) := by decide +kernel
theorem dX12_init_192 : decode cX12_init 192 = .ok (.putfield 102, 3) := by decide +kernel
theorem dX12_init_195 : decode cX12_init 195 = .ok (.aload_n 0, 1) := by decide +kernel
theorem dX12_init_196 : decode cX12_init 196 = .ok (.sipush 740, 3) := by decide +kernel
theorem dX12_init_199 : decode cX12_init 199 = .ok (.newarray .int, 2) := by decide +kernel
theorem dX12_init_201 : decode cX12_init 201 = .ok (.putfield 105, 3) := by decide +kernel
theorem dX12_init_204 : decode cX12_init 204 = .ok (.aload_n 0, 1) := by decide +kernel
theorem dX12_init_205 : decode cX12_init 205 = .ok (.bipush 16, 2) := by decide +kernel
theorem dX12_init_207 : decode cX12_init 207 = .ok (.newarray .long, 2) := by decide +kernel
theorem dX12_init_209 : decode cX12_init 209 = .ok (.putfield 108, 3) := by decide +kernel
theorem dX12_init_212 : decode cX12_init 212 = .ok (.aload_n 0, 1) := by decide +kernel
theorem dX12_init_213 : decode cX12_init 213 = .ok (.iconst 2, 1) := by decide +kernel
theorem dX12_init_214 : decode cX12_init 214 = .ok (.newarray .boolean, 2) := by decide +kernel
theorem dX12_init_216 : decode cX12_init 216 = .ok (.putfield 111, 3) := by decide +kernel
theorem dX12_init_219 : decode cX12_init 219 = .ok (.aload_n 0, 1) := by decide +kernel
theorem dX12_init_220 : decode cX12_init 220 = .ok (.getfield 47, 3) := by decide +kernel
theorem dX12_init_223 : decode cX12_init 223 = .ok (.iconst 0, 1) := by decide +kernel
theorem dX12_init_224 : decode cX12_init 224 = .ok (.ldc2_w 115, 3) := by decide +kernel
theorem dX12_init_227 : decode cX12_init 227 = .ok (.lastore, 1) := by decide +kernel
theorem dX12_init_228 : decode cX12_init 228 = .ok (.aload_n 0, 1) := by decide +kernel
theorem dX12_init_229 : decode cX12_init 229 = .ok (.getfield 47, 3) := by decide +kernel
theorem dX12_init_232 : decode cX12_init 232 = .ok (.iconst 1, 1) := by decide +kernel
theorem dX12_init_233 : decode cX12_init 233 = .ok (.ldc2_w 117, 3) := by decide +kernel
theorem dX12_init_236 : decode cX12_init 236 = .ok (.lastore, 1) := by decide +kernel
theorem dX12_init_237 : decode cX12_init 237 = .ok (.aload_n 0, 1) := by decide +kernel
theorem dX12_init_238 : decode cX12_init 238 = .ok (.getfield 47, 3) := by decide +kernel
theorem dX12_init_241 : decode cX12_init 241 = .ok (.iconst 2, 1) := by decide +kernel
theorem dX12_init_242 : decode cX12_init 242 = .ok (.ldc2_w 119, 3) := by decide +kernel
theorem dX12_init_245 : decode cX12_init 245 = .ok (.lastore, 1) := by decide +kernel
theorem dX12_init_246 : decode cX12_init 246 = .ok (.aload_n 0, 1) := by decide +kernel
theorem dX12_init_247 : decode cX12_init 247 = .ok (.getfield 47, 3) := by decide +kernel
theorem dX12_init_250 : decode cX12_init 250 = .ok (.iconst 3, 1) := by decide +kernel
theorem dX12_init_251 : decode cX12_init 251 = .ok (.ldc2_w 121, 3) := by decide +kernel
theorem dX12_init_254 : decode cX12_init 254 = .ok (.lastore, 1) := by decide +kernel
theorem dX12_init_255 : decode cX12_init 255 = .ok (.aload_n 0, 1) := by decide +kernel
theorem dX12_init_256 : decode cX12_init 256 = .ok (.getfield 47, 3) := by decide +kernel
theorem dX12_init_259 : decode cX12_init 259 = .ok (.iconst 4, 1) := by decide +kernel
theorem dX12_init_260 : decode cX12_init 260 = .ok (.ldc2_w 123, 3) := by decide +kernel
theorem dX12_init_263 : decode cX12_init 263 = .ok (.lastore, 1) := by decide +kernel
theorem dX12_init_264 : decode cX12_init 264 = .ok (.aload_n 0, 1) := by decide +kernel
theorem dX12_init_265 : decode cX12_init 265 = .ok (.getfield 47, 3) := by decide +kernel
theorem dX12_init_268 : decode cX12_init 268 = .ok (.iconst 5, 1) := by decide +kernel
theorem dX12_init_269 : decode cX12_init 269 = .ok (.ldc2_w 125, 3) := by decide +kernel
theorem dX12_init_272 : decode cX12_init 272 = .ok (.lastore, 1) := by decide +kernel
theorem dX12_init_273 : decode cX12_init 273 = .ok (.aload_n 0, 1) := by decide +kernel
theorem dX12_init_274 : decode cX12_init 274 = .ok (.getfield 47, 3) := by decide +kernel
theorem dX12_init_277 : decode cX12_init 277 = .ok (.bipush 6, 2) := by decide +kernel
theorem dX12_init_279 : decode cX12_init 279 = .ok (.ldc2_w 127, 3) := by decide +kernel
theorem dX12_init_282 : decode cX12_init 282 = .ok (.lastore, 1) := by decide +kernel
theorem dX12_init_283 : decode cX12_init 283 = .ok (.aload_n 0, 1) := by decide +kernel
theorem dX12_init_284 : decode cX12_init 284 = .ok (.getfield 47, 3) := by decide +kernel
theorem dX12_init_287 : decode cX12_init 287 = .ok (.bipush 7, 2) := by decide +kernel
theorem dX12_init_289 : decode cX12_init 289 = .ok (.ldc2_w 129, 3) := by decide +kernel
theorem dX12_init_292 : decode cX12_init 292 = .ok (.lastore, 1) := by decide +kernel
theorem dX12_init_293 : decode cX12_init 293 = .ok (.aload_n 0, 1) := by decide +kernel
theorem dX12_init_294 : decode cX12_init 294 = .ok (.getfield 47, 3) := by decide +kernel
theorem dX12_init_297 : decode cX12_init 297 = .ok (.bipush 8, 2) := by decide +kernel
theorem dX12_init_299 : decode cX12_init 299 = .ok (.ldc2_w 131, 3) := by decide +kernel
theorem dX12_init_302 : decode cX12_init 302 = .ok (.lastore, 1) := by decide +kernel
theorem dX12_init_303 : decode cX12_init 303 = .ok (.aload_n 0, 1) := by decide +kernel
theorem dX12_init_304 : decode cX12_init 304 = .ok (.getfield 47, 3) := by decide +kernel
theorem dX12_init_307 : decode cX12_init 307 = .ok (.bipush 9, 2) := by decide +kernel
theorem dX12_init_309 : decode cX12_init 309 = .ok (.ldc2_w 133, 3) := by decide +kernel
theorem dX12_init_312 : decode cX12_init 312 = .ok (.lastore, 1) := by decide +kernel
theorem dX12_init_313 : decode cX12_init 313 = .ok (.aload_n 0, 1) := by decide +kernel
theorem dX12_init_314 : decode cX12_init 314 = .ok (.getfield 47, 3) := by decide +kernel
theorem dX12_init_317 : decode cX12_init 317 = .ok (.bipush 10, 2) := by decide +kernel
theorem dX12_init_319 : decode cX12_init 319 = .ok (.ldc2_w 135, 3) := by decide +kernel
theorem dX12_init_322 : decode cX12_init 322 = .ok (.lastore, 1) := by decide +kernel
theorem dX12_init_323 : decode cX12_init 323 = .ok (.aload_n 0, 1) := by decide +kernel
theorem dX12_init_324 : decode cX12_init 324 = .ok (.getfield 47, 3) := by decide +kernel
theorem dX12_init_327 : decode cX12_init 327 = .ok (.bipush 11, 2) := by decide +kernel
theorem dX12_init_329 : decode cX12_init 329 = .ok (.ldc2_w 137, 3) := by decide +kernel
theorem dX12_init_332 : decode cX12_init 332 = .ok (.lastore, 1) := by decide +kernel
theorem dX12_init_333 : decode cX12_init 333 = .ok (.aload_n 0, 1) := by decide +kernel
theorem dX12_init_334 : decode cX12_init 334 = .ok (.getfield 47, 3) := by decide +kernel
theorem dX12_init_337 : decode cX12_init 337 = .ok (.bipush 12, 2) := by decide +kernel
theorem dX12_init_339 : decode cX12_init 339 = .ok (.ldc2_w 139, 3) := by decide +kernel
theorem dX12_init_342 : decode cX12_init 342 = .ok (.lastore, 1) := by decide +kernel
theorem dX12_init_343 : decode cX12_init 343 = .ok (.aload_n 0, 1) := by decide +kernel
theorem dX12_init_344 : decode cX12_init 344 = .ok (.getfield 47, 3) := by decide +kernel
theorem dX12_init_347 : decode cX12_init 347 = .ok (.bipush 13, 2) := by decide +kernel
theorem dX12_init_349 : decode cX12_init 349 = .ok (.ldc2_w 141, 3) := by decide +kernel
theorem dX12_init_352 : decode cX12_init 352 = .ok (.lastore, 1) := by decide +kernel
theorem dX12_init_353 : decode cX12_init 353 = .ok (.aload_n 0, 1) := by decide +kernel
theorem dX12_init_354 : decode cX12_init 354 = .ok (.getfield 47, 3) := by decide +kernel
theorem dX12_init_357 : decode cX12_init 357 = .ok (.bipush 14, 2) := by decide +kernel
theorem dX12_init_359 : decode cX12_init 359 = .ok (.ldc2_w 143, 3) := by decide +kernel
theorem dX12_init_362 : decode cX12_init 362 = .ok (.lastore, 1) := by decide +kernel
theorem dX12_init_363 : decode cX12_init 363 = .ok (.aload_n 0, 1) := by decide +kernel
theorem dX12_init_364 : decode cX12_init 364 = .ok (.getfield 47, 3) := by decide +kernel
theorem dX12_init_367 : decode cX12_init 367 = .ok (.bipush 15, 2) := by decide +kernel
theorem dX12_init_369 : decode cX12_init 369 = .ok (.ldc2_w 145, 3) := by decide +kernel
theorem dX12_init_372 : decode cX12_init 372 = .ok (.lastore, 1) := by decide +kernel
theorem dX12_init_373 : decode cX12_init 373 = .ok (.aload_n 0, 1) := by decide +kernel
theorem dX12_init_374 : decode cX12_init 374 = .ok (.getfield 47, 3) := by decide +kernel
theorem dX12_init_377 : decode cX12_init 377 = .ok (.bipush 16, 2) := by decide +kernel
theorem dX12_init_379 : decode cX12_init 379 = .ok (.ldc2_w 147, 3) := by decide +kernel
theorem dX12_init_382 : decode cX12_init 382 = .ok (.lastore, 1) := by decide +kernel
theorem dX12_init_383 : decode cX12_init 383 = .ok (.aload_n 0, 1) := by decide +kernel
theorem dX12_init_384 : decode cX12_init 384 = .ok (.getfield 47, 3) := by decide +kernel
theorem dX12_init_387 : decode cX12_init 387 = .ok (.bipush 17, 2) := by decide +kernel
theorem dX12_init_389 : decode cX12_init 389 = .ok (.ldc2_w 149, 3) := by decide +kernel
theorem dX12_init_392 : decode cX12_init 392 = .ok (.lastore, 1) := by decide +kernel
theorem dX12_init_393 : decode cX12_init 393 = .ok (.aload_n 0, 1) := by decide +kernel
theorem dX12_init_394 : decode cX12_init 394 = .ok (.invokevirtual 151, 3) := by decide +kernel
theorem dX12_init_397 : decode cX12_init 397 = .ok (.iconst 0, 1) := by decide +kernel
theorem dX12_init_398 : decode cX12_init 398 = .ok (.istore_n 1, 1) := by decide +kernel
theorem dX12_init_399 : decode cX12_init 399 = .ok (.iload_n 1, 1) := by decide +kernel
theorem dX12_init_400 : decode cX12_init 400 = .ok (.sipush 225, 3) := by decide +kernel
theorem dX12_init_403 : decode cX12_init 403 = .ok (.if_icmp .ge 21, 3) := by decide +kernel
theorem dX12_init_406 : decode cX12_init 406 = .ok (.aload_n 0, 1) := by decide +kernel
theorem dX12_init_407 : decode cX12_init 407 = .ok (.getfield 33, 3) := by decide +kernel
theorem dX12_init_410 : decode cX12_init 410 = .ok (.iload_n 1, 1) := by decide +kernel
theorem dX12_init_411 : decode cX12_init 411 = .ok (.aload_n 0, 1) := by decide +kernel
theorem dX12_init_412 : decode cX12_init 412 = .ok (.getfield 37, 3) := by decide +kernel
theorem dX12_init_415 : decode cX12_init 415 = .ok (.iload_n 1, 1) := by decide +kernel
theorem dX12_init_416 : decode cX12_init 416 = .ok (.iaload, 1) := by decide +kernel
theorem dX12_init_417 : decode cX12_init 417 = .ok (.iastore, 1) := by decide +kernel
theorem dX12_init_418 : decode cX12_init 418 = .ok (.iinc 1 1, 3) := by decide +kernel
theorem dX12_init_421 : decode cX12_init 421 = .ok (.goto (-22), 3) := by decide +kernel
theorem dX12_init_424 : decode cX12_init 424 = .ok (.return_, 1) := by decide +kernel
def wb_X12_init_399 (K399 : AH → Nat → Int32 → Prop) (h : AH) (al0 : Nat) (xl1 : Int32)  (post : AH → Prop) : Prop := (225 ≤ xl1 → (post h)) ∧ (¬ 225 ≤ xl1 → ((ob h al0 11) ∧ (∃ rv1, aP h al0 6 = some rv1 ∧ ((ob h al0 11) ∧ (∃ rv2, aP h al0 7 = some rv2 ∧ ((ob h rv2 13) ∧ ((vp_in xl1 (aL h rv2)) ∧ ((ob h rv1 13) ∧ ((vp_in xl1 (aL h rv1)) ∧ (∀ hv3 : AH, hv3 = hI h rv1 xl1.toNatClampNeg (aI h rv2 xl1.toNatClampNeg) → (∀ iv4 : Int32, iv4 = xl1 + 1 → (K399 hv3 al0 iv4))))))))))))
set_option maxRecDepth 100000 in
theorem tb_X12_init_399 {G : GG} {p : Program} {l : Launch} {e : Env} {R : Room} {s : State} {m : MethodId} {args : Array Value} {below : List Frame} {meth : Method} {c : Code} {n0 s0 : Nat} {post : AH → Prop} (C : Cx G p R s m args meth c 2 cX12_init RX12 n0 s0 1 21) (hr : meth.sig.returnType = none) (hnm : meth.name = "<init>") {K399 : AH → Nat → Int32 → Prop} (hK399 : ∀ (h : AH) (al0 : Nat) (xl1 : Int32), K399 h al0 xl1 → AW G p l e R s m args below meth c 2 (QM G (pV post) args s below n0 s0) 399 [(0, .ref (G.1 + al0)), (1, .int xl1)] [] h) {h : AH} {al0 : Nat} {xl1 : Int32}  (hw : wb_X12_init_399 K399 h al0 xl1 post) : AW G p l e R s m args below meth c 2 (QM G (pV post) args s below n0 s0) 399 [(0, .ref (G.1 + al0)), (1, .int xl1)] [] h := by
  unfold wb_X12_init_399 at hw
  refine r_iload_n C dX12_init_399 1 rfl ?_
  refine r_sipush (v := 225) C dX12_init_400 (by decide) ?_
  refine r_icmp_ge C dX12_init_403 424 (by decide) (fun hc => ?_) (fun hc => ?_)
  · replace hw := hw.1 hc
    exact r_vret C hr dX12_init_424 hw
  · replace hw := hw.2 hc
    refine r_aload_n C dX12_init_406 0 rfl ?_
    have hob := hw.1
    obtain ⟨rv1, hp, hw⟩ := hw.2
    refine r_getP C fl_RX12_33_11 hob hp (fun _ _ _ => rfl) dX12_init_407 ?_
    refine r_iload_n C dX12_init_410 1 rfl ?_
    refine r_aload_n C dX12_init_411 0 rfl ?_
    have hob := hw.1
    obtain ⟨rv2, hp, hw⟩ := hw.2
    refine r_getP C fl_RX12_37_11 hob hp (fun _ _ _ => rfl) dX12_init_412 ?_
    refine r_iload_n C dX12_init_415 1 rfl ?_
    refine r_iaload C hw.1 hw.2.1 dX12_init_416 ?_
    replace hw := hw.2.2
    refine r_iastore C hw.1 hw.2.1 dX12_init_417 ?_
    replace hw := hw.2.2
    refine r_toph fun hv3 ehv3 => ?_
    replace hw := hw hv3 ehv3
    obtain ⟨iv4, eiv4⟩ : ∃ q : Int32, q = xl1 + 1 := ⟨_, rfl⟩
    replace hw := hw iv4 eiv4
    refine r_iinc C dX12_init_418 1 rfl (by rw [eiv4]; rfl) [(1, .int iv4), (0, .ref (G.1 + al0))] (by decide) rfl ?_
    refine r_goto C dX12_init_421 399 (by decide) ?_
    refine r_sub [1, 0] rfl ?_
    exact hK399 _ _ _ hw
def wl_X12_init_399  (post : AH → Prop) : Nat → AH → Nat → Int32 → Prop
  | 0 => fun _ _ _ => False
  | n + 1 => fun h al0 xl1 => wb_X12_init_399  (wl_X12_init_399  post n) h al0 xl1 post
theorem tl_X12_init_399 {G : GG} {p : Program} {l : Launch} {e : Env} {R : Room} {s : State} {m : MethodId} {args : Array Value} {below : List Frame} {meth : Method} {c : Code} {n0 s0 : Nat} {post : AH → Prop} (C : Cx G p R s m args meth c 2 cX12_init RX12 n0 s0 1 21) (hr : meth.sig.returnType = none) (hnm : meth.name = "<init>")   : ∀ (n : Nat) (h : AH) (al0 : Nat) (xl1 : Int32), wl_X12_init_399  post n h al0 xl1 → AW G p l e R s m args below meth c 2 (QM G (pV post) args s below n0 s0) 399 [(0, .ref (G.1 + al0)), (1, .int xl1)] [] h := by
  intro n
  induction n with
  | zero => intro h al0 xl1 hw; exact hw.elim
  | succ n ih => intro h al0 xl1 hw; exact tb_X12_init_399 C hr hnm  ih hw
set_option maxRecDepth 100000 in
def wp_X12_init (h : AH) (a0 : Nat) (post : AH → Prop) : Prop := (¬ (940 : Int32) < 0) ∧ ((aN h < 601024 ∧ aS h + (940 : Int32).toNatClampNeg ≤ 7293034) ∧ (∀ (hv1 : AH) (rv2 : Nat), hv1 = hNew h 12 (940 : Int32).toNatClampNeg → rv2 = aN h → ((ob hv1 a0 11) ∧ (∀ hv3 : AH, hv3 = hP hv1 a0 1 rv2 → ((¬ (370 : Int32) < 0) ∧ ((aN hv3 < 601024 ∧ aS hv3 + (370 : Int32).toNatClampNeg ≤ 7293034) ∧ (∀ (hv4 : AH) (rv5 : Nat), hv4 = hNew hv3 13 (370 : Int32).toNatClampNeg → rv5 = aN hv3 → ((ob hv4 a0 11) ∧ (∀ hv6 : AH, hv6 = hP hv4 a0 6 rv5 → ((¬ (250 : Int32) < 0) ∧ ((aN hv6 < 601024 ∧ aS hv6 + (250 : Int32).toNatClampNeg ≤ 7293034) ∧ (∀ (hv7 : AH) (rv8 : Nat), hv7 = hNew hv6 13 (250 : Int32).toNatClampNeg → rv8 = aN hv6 → ((ob hv7 a0 11) ∧ (∀ hv9 : AH, hv9 = hP hv7 a0 7 rv8 → ((¬ (120 : Int32) < 0) ∧ ((aN hv9 < 601024 ∧ aS hv9 + (120 : Int32).toNatClampNeg ≤ 7293034) ∧ (∀ (hv10 : AH) (rv11 : Nat), hv10 = hNew hv9 13 (120 : Int32).toNatClampNeg → rv11 = aN hv9 → ((ob hv10 a0 11) ∧ (∀ hv12 : AH, hv12 = hP hv10 a0 8 rv11 → ((¬ (16 : Int32) < 0) ∧ ((aN hv12 < 601024 ∧ aS hv12 + (16 : Int32).toNatClampNeg ≤ 7293034) ∧ (∀ (hv13 : AH) (rv14 : Nat), hv13 = hNew hv12 14 (16 : Int32).toNatClampNeg → rv14 = aN hv12 → ((ob hv13 a0 11) ∧ (∀ hv15 : AH, hv15 = hP hv13 a0 9 rv14 → ((¬ (18 : Int32) < 0) ∧ ((aN hv15 < 601024 ∧ aS hv15 + (18 : Int32).toNatClampNeg ≤ 7293034) ∧ (∀ (hv16 : AH) (rv17 : Nat), hv16 = hNew hv15 14 (18 : Int32).toNatClampNeg → rv17 = aN hv15 → ((ob hv16 a0 11) ∧ (∀ hv18 : AH, hv18 = hP hv16 a0 10 rv17 → ((¬ (24 : Int32) < 0) ∧ ((aN hv18 < 601024 ∧ aS hv18 + (24 : Int32).toNatClampNeg ≤ 7293034) ∧ (∀ (hv19 : AH) (rv20 : Nat), hv19 = hNew hv18 13 (24 : Int32).toNatClampNeg → rv20 = aN hv18 → ((ob hv19 a0 11) ∧ (∀ hv21 : AH, hv21 = hP hv19 a0 24 rv20 → ((¬ (24 : Int32) < 0) ∧ ((aN hv21 < 601024 ∧ aS hv21 + (24 : Int32).toNatClampNeg ≤ 7293034) ∧ (∀ (hv22 : AH) (rv23 : Nat), hv22 = hNew hv21 13 (24 : Int32).toNatClampNeg → rv23 = aN hv21 → ((ob hv22 a0 11) ∧ (∀ hv24 : AH, hv24 = hP hv22 a0 25 rv23 → ((¬ (24 : Int32) < 0) ∧ ((aN hv24 < 601024 ∧ aS hv24 + (24 : Int32).toNatClampNeg ≤ 7293034) ∧ (∀ (hv25 : AH) (rv26 : Nat), hv25 = hNew hv24 13 (24 : Int32).toNatClampNeg → rv26 = aN hv24 → ((ob hv25 a0 11) ∧ (∀ hv27 : AH, hv27 = hP hv25 a0 26 rv26 → ((¬ (5 : Int32) < 0) ∧ ((aN hv27 < 601024 ∧ aS hv27 + (5 : Int32).toNatClampNeg ≤ 7293034) ∧ (∀ (hv28 : AH) (rv29 : Nat), hv28 = hNew hv27 13 (5 : Int32).toNatClampNeg → rv29 = aN hv27 → ((ob hv28 a0 11) ∧ (∀ hv30 : AH, hv30 = hP hv28 a0 32 rv29 → ((¬ (24 : Int32) < 0) ∧ ((aN hv30 < 601024 ∧ aS hv30 + (24 : Int32).toNatClampNeg ≤ 7293034) ∧ (∀ (hv31 : AH) (rv32 : Nat), hv31 = hNew hv30 13 (24 : Int32).toNatClampNeg → rv32 = aN hv30 → ((ob hv31 a0 11) ∧ (∀ hv33 : AH, hv33 = hP hv31 a0 33 rv32 → ((ob hv33 a0 11) ∧ (∀ hv34 : AH, hv34 = hI hv33 a0 34 (-1) → ((¬ (125000 : Int32) < 0) ∧ ((aN hv34 < 601024 ∧ aS hv34 + (125000 : Int32).toNatClampNeg ≤ 7293034) ∧ (∀ (hv35 : AH) (rv36 : Nat), hv35 = hNew hv34 13 (125000 : Int32).toNatClampNeg → rv36 = aN hv34 → ((ob hv35 a0 11) ∧ (∀ hv37 : AH, hv37 = hP hv35 a0 35 rv36 → ((¬ (125000 : Int32) < 0) ∧ ((aN hv37 < 601024 ∧ aS hv37 + (125000 : Int32).toNatClampNeg ≤ 7293034) ∧ (∀ (hv38 : AH) (rv39 : Nat), hv38 = hNew hv37 13 (125000 : Int32).toNatClampNeg → rv39 = aN hv37 → ((ob hv38 a0 11) ∧ (∀ hv40 : AH, hv40 = hP hv38 a0 36 rv39 → ((¬ (125000 : Int32) < 0) ∧ ((aN hv40 < 601024 ∧ aS hv40 + (125000 : Int32).toNatClampNeg ≤ 7293034) ∧ (∀ (hv41 : AH) (rv42 : Nat), hv41 = hNew hv40 13 (125000 : Int32).toNatClampNeg → rv42 = aN hv40 → ((ob hv41 a0 11) ∧ (∀ hv43 : AH, hv43 = hP hv41 a0 37 rv42 → ((¬ (125000 : Int32) < 0) ∧ ((aN hv43 < 601024 ∧ aS hv43 + (125000 : Int32).toNatClampNeg ≤ 7293034) ∧ (∀ (hv44 : AH) (rv45 : Nat), hv44 = hNew hv43 13 (125000 : Int32).toNatClampNeg → rv45 = aN hv43 → ((ob hv44 a0 11) ∧ (∀ hv46 : AH, hv46 = hP hv44 a0 38 rv45 → ((¬ (125000 : Int32) < 0) ∧ ((aN hv46 < 601024 ∧ aS hv46 + (125000 : Int32).toNatClampNeg ≤ 7293034) ∧ (∀ (hv47 : AH) (rv48 : Nat), hv47 = hNew hv46 13 (125000 : Int32).toNatClampNeg → rv48 = aN hv46 → ((ob hv47 a0 11) ∧ (∀ hv49 : AH, hv49 = hP hv47 a0 39 rv48 → ((¬ (128 : Int32) < 0) ∧ ((aN hv49 < 601024 ∧ aS hv49 + (128 : Int32).toNatClampNeg ≤ 7293034) ∧ (∀ (hv50 : AH) (rv51 : Nat), hv50 = hNew hv49 13 (128 : Int32).toNatClampNeg → rv51 = aN hv49 → ((ob hv50 a0 11) ∧ (∀ hv52 : AH, hv52 = hP hv50 a0 42 rv51 → ((¬ (128 : Int32) < 0) ∧ ((aN hv52 < 601024 ∧ aS hv52 + (128 : Int32).toNatClampNeg ≤ 7293034) ∧ (∀ (hv53 : AH) (rv54 : Nat), hv53 = hNew hv52 13 (128 : Int32).toNatClampNeg → rv54 = aN hv52 → ((ob hv53 a0 11) ∧ (∀ hv55 : AH, hv55 = hP hv53 a0 43 rv54 → ((¬ (128 : Int32) < 0) ∧ ((aN hv55 < 601024 ∧ aS hv55 + (128 : Int32).toNatClampNeg ≤ 7293034) ∧ (∀ (hv56 : AH) (rv57 : Nat), hv56 = hNew hv55 13 (128 : Int32).toNatClampNeg → rv57 = aN hv55 → ((ob hv56 a0 11) ∧ (∀ hv58 : AH, hv58 = hP hv56 a0 44 rv57 → ((¬ (128 : Int32) < 0) ∧ ((aN hv58 < 601024 ∧ aS hv58 + (128 : Int32).toNatClampNeg ≤ 7293034) ∧ (∀ (hv59 : AH) (rv60 : Nat), hv59 = hNew hv58 13 (128 : Int32).toNatClampNeg → rv60 = aN hv58 → ((ob hv59 a0 11) ∧ (∀ hv61 : AH, hv61 = hP hv59 a0 45 rv60 → ((¬ (3 : Int32) < 0) ∧ ((aN hv61 < 601024 ∧ aS hv61 + (3 : Int32).toNatClampNeg ≤ 7293034) ∧ (∀ (hv62 : AH) (rv63 : Nat), hv62 = hNew hv61 13 (3 : Int32).toNatClampNeg → rv63 = aN hv61 → ((ob hv62 a0 11) ∧ (∀ hv64 : AH, hv64 = hP hv62 a0 46 rv63 → ((¬ (24 : Int32) < 0) ∧ ((aN hv64 < 601024 ∧ aS hv64 + (24 : Int32).toNatClampNeg ≤ 7293034) ∧ (∀ (hv65 : AH) (rv66 : Nat), hv65 = hNew hv64 13 (24 : Int32).toNatClampNeg → rv66 = aN hv64 → ((ob hv65 a0 11) ∧ (∀ hv67 : AH, hv67 = hP hv65 a0 47 rv66 → ((ob hv67 a0 11) ∧ (∀ hv68 : AH, hv68 = hI hv67 a0 48 (-1) → ((¬ (740 : Int32) < 0) ∧ ((aN hv68 < 601024 ∧ aS hv68 + (740 : Int32).toNatClampNeg ≤ 7293034) ∧ (∀ (hv69 : AH) (rv70 : Nat), hv69 = hNew hv68 13 (740 : Int32).toNatClampNeg → rv70 = aN hv68 → ((ob hv69 a0 11) ∧ (∀ hv71 : AH, hv71 = hP hv69 a0 50 rv70 → ((¬ (16 : Int32) < 0) ∧ ((aN hv71 < 601024 ∧ aS hv71 + (16 : Int32).toNatClampNeg ≤ 7293034) ∧ (∀ (hv72 : AH) (rv73 : Nat), hv72 = hNew hv71 14 (16 : Int32).toNatClampNeg → rv73 = aN hv71 → ((ob hv72 a0 11) ∧ (∀ hv74 : AH, hv74 = hP hv72 a0 51 rv73 → ((¬ (2 : Int32) < 0) ∧ ((aN hv74 < 601024 ∧ aS hv74 + (2 : Int32).toNatClampNeg ≤ 7293034) ∧ (∀ (hv75 : AH) (rv76 : Nat), hv75 = hNew hv74 15 (2 : Int32).toNatClampNeg → rv76 = aN hv74 → ((ob hv75 a0 11) ∧ (∀ hv77 : AH, hv77 = hP hv75 a0 52 rv76 → ((ob hv77 a0 11) ∧ (∃ rv78, aP hv77 a0 10 = some rv78 ∧ ((ob hv77 rv78 14) ∧ ((vp_in 0 (aL hv77 rv78)) ∧ (∀ hv79 : AH, hv79 = hJ hv77 rv78 (0 : Int32).toNatClampNeg 7499639 → ((ob hv79 a0 11) ∧ (∃ rv80, aP hv79 a0 10 = some rv80 ∧ ((ob hv79 rv80 14) ∧ ((vp_in 1 (aL hv79 rv80)) ∧ (∀ hv81 : AH, hv81 = hJ hv79 rv80 (1 : Int32).toNatClampNeg 1953064037 → ((ob hv81 a0 11) ∧ (∃ rv82, aP hv81 a0 10 = some rv82 ∧ ((ob hv81 rv82 14) ∧ ((vp_in 2 (aL hv81 rv82)) ∧ (∀ hv83 : AH, hv83 = hJ hv81 rv82 (2 : Int32).toNatClampNeg 1918985844 → ((ob hv83 a0 11) ∧ (∃ rv84, aP hv83 a0 10 = some rv84 ∧ ((ob hv83 rv84 14) ∧ ((vp_in 3 (aL hv83 rv84)) ∧ (∀ hv85 : AH, hv85 = hJ hv83 rv84 (3 : Int32).toNatClampNeg 1886350437 → ((ob hv85 a0 11) ∧ (∃ rv86, aP hv85 a0 10 = some rv86 ∧ ((ob hv85 rv86 14) ∧ ((vp_in 4 (aL hv85 rv86)) ∧ (∀ hv87 : AH, hv87 = hJ hv85 rv86 (4 : Int32).toNatClampNeg 1919905893 → ((ob hv87 a0 11) ∧ (∃ rv88, aP hv87 a0 10 = some rv88 ∧ ((ob hv87 rv88 14) ∧ ((vp_in 5 (aL hv87 rv88)) ∧ (∀ hv89 : AH, hv89 = hJ hv87 rv88 (5 : Int32).toNatClampNeg 1836019570 → ((ob hv89 a0 11) ∧ (∃ rv90, aP hv89 a0 10 = some rv90 ∧ ((ob hv89 rv90 14) ∧ ((vp_in 6 (aL hv89 rv90)) ∧ (∀ hv91 : AH, hv91 = hJ hv89 rv90 (6 : Int32).toNatClampNeg 126931137819237 → ((ob hv91 a0 11) ∧ (∃ rv92, aP hv91 a0 10 = some rv92 ∧ ((ob hv91 rv92 14) ∧ ((vp_in 7 (aL hv91 rv92)) ∧ (∀ hv93 : AH, hv93 = hJ hv91 rv92 (7 : Int32).toNatClampNeg 108187867505765 → ((ob hv93 a0 11) ∧ (∃ rv94, aP hv93 a0 10 = some rv94 ∧ ((ob hv93 rv94 14) ∧ ((vp_in 8 (aL hv93 rv94)) ∧ (∀ hv95 : AH, hv95 = hJ hv93 rv94 (8 : Int32).toNatClampNeg 418497262196 → ((ob hv95 a0 11) ∧ (∃ rv96, aP hv95 a0 10 = some rv96 ∧ ((ob hv95 rv96 14) ∧ ((vp_in 9 (aL hv95 rv96)) ∧ (∀ hv97 : AH, hv97 = hJ hv95 rv96 (9 : Int32).toNatClampNeg 7566702 → ((ob hv97 a0 11) ∧ (∃ rv98, aP hv97 a0 10 = some rv98 ∧ ((ob hv97 rv98 14) ∧ ((vp_in 10 (aL hv97 rv98)) ∧ (∀ hv99 : AH, hv99 = hJ hv97 rv98 (10 : Int32).toNatClampNeg 1818846579 → ((ob hv99 a0 11) ∧ (∃ rv100, aP hv99 a0 10 = some rv100 ∧ ((ob hv99 rv100 14) ∧ ((vp_in 11 (aL hv99 rv100)) ∧ (∀ hv101 : AH, hv101 = hJ hv99 rv100 (11 : Int32).toNatClampNeg 474316174440 → ((ob hv101 a0 11) ∧ (∃ rv102, aP hv101 a0 10 = some rv102 ∧ ((ob hv101 rv102 14) ∧ ((vp_in 12 (aL hv101 rv102)) ∧ (∀ hv103 : AH, hv103 = hJ hv101 rv102 (12 : Int32).toNatClampNeg 1700885364 → ((ob hv103 a0 11) ∧ (∃ rv104, aP hv103 a0 10 = some rv104 ∧ ((ob hv103 rv104 14) ∧ ((vp_in 13 (aL hv103 rv104)) ∧ (∀ hv105 : AH, hv105 = hJ hv103 rv104 (13 : Int32).toNatClampNeg 495791207528 → ((ob hv105 a0 11) ∧ (∃ rv106, aP hv105 a0 10 = some rv106 ∧ ((ob hv105 rv106 14) ∧ ((vp_in 14 (aL hv105 rv106)) ∧ (∀ hv107 : AH, hv107 = hJ hv105 rv106 (14 : Int32).toNatClampNeg 2003137396 → ((ob hv107 a0 11) ∧ (∃ rv108, aP hv107 a0 10 = some rv108 ∧ ((ob hv107 rv108 14) ∧ ((vp_in 15 (aL hv107 rv108)) ∧ (∀ hv109 : AH, hv109 = hJ hv107 rv108 (15 : Int32).toNatClampNeg 495740085349 → ((ob hv109 a0 11) ∧ (∃ rv110, aP hv109 a0 10 = some rv110 ∧ ((ob hv109 rv110 14) ∧ ((vp_in 16 (aL hv109 rv110)) ∧ (∀ hv111 : AH, hv111 = hJ hv109 rv110 (16 : Int32).toNatClampNeg 1953854062 → ((ob hv111 a0 11) ∧ (∃ rv112, aP hv111 a0 10 = some rv112 ∧ ((ob hv111 rv112 14) ∧ ((vp_in 17 (aL hv111 rv112)) ∧ (∀ hv113 : AH, hv113 = hJ hv111 rv112 (17 : Int32).toNatClampNeg 2002872692 → ((ob hv113 a0 11) ∧ wp_X12_plainLagoon hv113 a0  (fun hv114  => ∃ n, wl_X12_init_399  post n hv114 a0 0))))))))))))))))))))))))))))))))))))))))))))))))))))))))))))))))))))))))))))))))))))))))))))))))))))))))))))))))))))))))))))))))))))))))))))))))))))))))))))))))))))))))))))))))))))))))))))))))))))))))))))))))))))))))))))
set_option maxRecDepth 100000 in
theorem c_X12_init (G : GG) (h : AH) (a0 : Nat) (post : AH → Prop) (hw : wp_X12_init h a0 post) : MC G yX12_init cX12_init 2 none 1 21 h [.ref (G.1 + a0)] (pV post) := by
  refine MC.of (lv := [(0, .ref (G.1 + a0))]) (by decide) (Nat.le_of_ble_eq_true rfl) rfl fun p l e R s m args below meth c C hr hnm => ?_
  unfold wp_X12_init at hw
  refine r_aload_n C dX12_init_0 0 rfl ?_
  refine r_objInit C (gm6 (List.mem_of_getElem? (i := 198) rfl) rfl) (gm1 (List.mem_of_getElem? (i := 32) rfl) rfl) (gm1 (List.mem_of_getElem? (i := 33) rfl) rfl) dX12_init_1 ⟨by decide, Nat.le_of_ble_eq_true rfl⟩ ?_
  refine r_aload_n C dX12_init_4 0 rfl ?_
  refine r_sipush (v := 940) C dX12_init_5 (by decide) ?_
  refine r_newB C hw.1 hw.2.1 dX12_init_8 (gm1 (List.mem_of_getElem? (i := 132) rfl) rfl) ?_
  replace hw := hw.2.2
  refine r_topn fun hv1 rv2 ehv1 erv2 => ?_
  replace hw := hw hv1 rv2 ehv1 erv2
  refine r_putPF C ff_RX12_14_11 hnm hw.1 (fun _ _ _ => rfl) dX12_init_10 ?_
  replace hw := hw.2
  refine r_toph fun hv3 ehv3 => ?_
  replace hw := hw hv3 ehv3
  refine r_aload_n C dX12_init_13 0 rfl ?_
  refine r_sipush (v := 370) C dX12_init_14 (by decide) ?_
  refine r_newI C hw.1 hw.2.1 dX12_init_17 (gm1 (List.mem_of_getElem? (i := 133) rfl) rfl) ?_
  replace hw := hw.2.2
  refine r_topn fun hv4 rv5 ehv4 erv5 => ?_
  replace hw := hw hv4 rv5 ehv4 erv5
  refine r_putPF C ff_RX12_33_11 hnm hw.1 (fun _ _ _ => rfl) dX12_init_19 ?_
  replace hw := hw.2
  refine r_toph fun hv6 ehv6 => ?_
  replace hw := hw hv6 ehv6
  refine r_aload_n C dX12_init_22 0 rfl ?_
  refine r_sipush (v := 250) C dX12_init_23 (by decide) ?_
  refine r_newI C hw.1 hw.2.1 dX12_init_26 (gm1 (List.mem_of_getElem? (i := 133) rfl) rfl) ?_
  replace hw := hw.2.2
  refine r_topn fun hv7 rv8 ehv7 erv8 => ?_
  replace hw := hw hv7 rv8 ehv7 erv8
  refine r_putPF C ff_RX12_37_11 hnm hw.1 (fun _ _ _ => rfl) dX12_init_28 ?_
  replace hw := hw.2
  refine r_toph fun hv9 ehv9 => ?_
  replace hw := hw hv9 ehv9
  refine r_aload_n C dX12_init_31 0 rfl ?_
  refine r_bipush (v := 120) C dX12_init_32 (by decide) ?_
  refine r_newI C hw.1 hw.2.1 dX12_init_34 (gm1 (List.mem_of_getElem? (i := 133) rfl) rfl) ?_
  replace hw := hw.2.2
  refine r_topn fun hv10 rv11 ehv10 erv11 => ?_
  replace hw := hw hv10 rv11 ehv10 erv11
  refine r_putPF C ff_RX12_40_11 hnm hw.1 (fun _ _ _ => rfl) dX12_init_36 ?_
  replace hw := hw.2
  refine r_toph fun hv12 ehv12 => ?_
  replace hw := hw hv12 ehv12
  refine r_aload_n C dX12_init_39 0 rfl ?_
  refine r_bipush (v := 16) C dX12_init_40 (by decide) ?_
  refine r_newJ C hw.1 hw.2.1 dX12_init_42 (gm1 (List.mem_of_getElem? (i := 134) rfl) rfl) ?_
  replace hw := hw.2.2
  refine r_topn fun hv13 rv14 ehv13 erv14 => ?_
  replace hw := hw hv13 rv14 ehv13 erv14
  refine r_putPF C ff_RX12_43_11 hnm hw.1 (fun _ _ _ => rfl) dX12_init_44 ?_
  replace hw := hw.2
  refine r_toph fun hv15 ehv15 => ?_
  replace hw := hw hv15 ehv15
  refine r_aload_n C dX12_init_47 0 rfl ?_
  refine r_bipush (v := 18) C dX12_init_48 (by decide) ?_
  refine r_newJ C hw.1 hw.2.1 dX12_init_50 (gm1 (List.mem_of_getElem? (i := 134) rfl) rfl) ?_
  replace hw := hw.2.2
  refine r_topn fun hv16 rv17 ehv16 erv17 => ?_
  replace hw := hw hv16 rv17 ehv16 erv17
  refine r_putPF C ff_RX12_47_11 hnm hw.1 (fun _ _ _ => rfl) dX12_init_52 ?_
  replace hw := hw.2
  refine r_toph fun hv18 ehv18 => ?_
  replace hw := hw hv18 ehv18
  refine r_aload_n C dX12_init_55 0 rfl ?_
  refine r_bipush (v := 24) C dX12_init_56 (by decide) ?_
  refine r_newI C hw.1 hw.2.1 dX12_init_58 (gm1 (List.mem_of_getElem? (i := 133) rfl) rfl) ?_
  replace hw := hw.2.2
  refine r_topn fun hv19 rv20 ehv19 erv20 => ?_
  replace hw := hw hv19 rv20 ehv19 erv20
  refine r_putPF C ff_RX12_50_11 hnm hw.1 (fun _ _ _ => rfl) dX12_init_60 ?_
  replace hw := hw.2
  refine r_toph fun hv21 ehv21 => ?_
  replace hw := hw hv21 ehv21
  refine r_aload_n C dX12_init_63 0 rfl ?_
  refine r_bipush (v := 24) C dX12_init_64 (by decide) ?_
  refine r_newI C hw.1 hw.2.1 dX12_init_66 (gm1 (List.mem_of_getElem? (i := 133) rfl) rfl) ?_
  replace hw := hw.2.2
  refine r_topn fun hv22 rv23 ehv22 erv23 => ?_
  replace hw := hw hv22 rv23 ehv22 erv23
  refine r_putPF C ff_RX12_53_11 hnm hw.1 (fun _ _ _ => rfl) dX12_init_68 ?_
  replace hw := hw.2
  refine r_toph fun hv24 ehv24 => ?_
  replace hw := hw hv24 ehv24
  refine r_aload_n C dX12_init_71 0 rfl ?_
  refine r_bipush (v := 24) C dX12_init_72 (by decide) ?_
  refine r_newI C hw.1 hw.2.1 dX12_init_74 (gm1 (List.mem_of_getElem? (i := 133) rfl) rfl) ?_
  replace hw := hw.2.2
  refine r_topn fun hv25 rv26 ehv25 erv26 => ?_
  replace hw := hw hv25 rv26 ehv25 erv26
  refine r_putPF C ff_RX12_56_11 hnm hw.1 (fun _ _ _ => rfl) dX12_init_76 ?_
  replace hw := hw.2
  refine r_toph fun hv27 ehv27 => ?_
  replace hw := hw hv27 ehv27
  refine r_aload_n C dX12_init_79 0 rfl ?_
  refine r_iconst (v := 5) C dX12_init_80 (by decide) ?_
  refine r_newI C hw.1 hw.2.1 dX12_init_81 (gm1 (List.mem_of_getElem? (i := 133) rfl) rfl) ?_
  replace hw := hw.2.2
  refine r_topn fun hv28 rv29 ehv28 erv29 => ?_
  replace hw := hw hv28 rv29 ehv28 erv29
  refine r_putPF C ff_RX12_59_11 hnm hw.1 (fun _ _ _ => rfl) dX12_init_83 ?_
  replace hw := hw.2
  refine r_toph fun hv30 ehv30 => ?_
  replace hw := hw hv30 ehv30
  refine r_aload_n C dX12_init_86 0 rfl ?_
  refine r_bipush (v := 24) C dX12_init_87 (by decide) ?_
  refine r_newI C hw.1 hw.2.1 dX12_init_89 (gm1 (List.mem_of_getElem? (i := 133) rfl) rfl) ?_
  replace hw := hw.2.2
  refine r_topn fun hv31 rv32 ehv31 erv32 => ?_
  replace hw := hw hv31 rv32 ehv31 erv32
  refine r_putPF C ff_RX12_62_11 hnm hw.1 (fun _ _ _ => rfl) dX12_init_91 ?_
  replace hw := hw.2
  refine r_toph fun hv33 ehv33 => ?_
  replace hw := hw hv33 ehv33
  refine r_aload_n C dX12_init_94 0 rfl ?_
  refine r_iconst (v := (-1)) C dX12_init_95 (by decide) ?_
  refine r_putI C fp_RX12_65_11 hw.1 rfl dX12_init_96 ?_
  replace hw := hw.2
  refine r_toph fun hv34 ehv34 => ?_
  replace hw := hw hv34 ehv34
  refine r_aload_n C dX12_init_99 0 rfl ?_
  refine r_ldc (v := 125000) C (gm6 (List.mem_of_getElem? (i := 199) rfl) rfl) dX12_init_100 ?_
  refine r_newI C hw.1 hw.2.1 dX12_init_102 (gm1 (List.mem_of_getElem? (i := 133) rfl) rfl) ?_
  replace hw := hw.2.2
  refine r_topn fun hv35 rv36 ehv35 erv36 => ?_
  replace hw := hw hv35 rv36 ehv35 erv36
  refine r_putPF C ff_RX12_69_11 hnm hw.1 (fun _ _ _ => rfl) dX12_init_104 ?_
  replace hw := hw.2
  refine r_toph fun hv37 ehv37 => ?_
  replace hw := hw hv37 ehv37
  refine r_aload_n C dX12_init_107 0 rfl ?_
  refine r_ldc (v := 125000) C (gm6 (List.mem_of_getElem? (i := 199) rfl) rfl) dX12_init_108 ?_
  refine r_newI C hw.1 hw.2.1 dX12_init_110 (gm1 (List.mem_of_getElem? (i := 133) rfl) rfl) ?_
  replace hw := hw.2.2
  refine r_topn fun hv38 rv39 ehv38 erv39 => ?_
  replace hw := hw hv38 rv39 ehv38 erv39
  refine r_putPF C ff_RX12_72_11 hnm hw.1 (fun _ _ _ => rfl) dX12_init_112 ?_
  replace hw := hw.2
  refine r_toph fun hv40 ehv40 => ?_
  replace hw := hw hv40 ehv40
  refine r_aload_n C dX12_init_115 0 rfl ?_
  refine r_ldc (v := 125000) C (gm6 (List.mem_of_getElem? (i := 199) rfl) rfl) dX12_init_116 ?_
  refine r_newI C hw.1 hw.2.1 dX12_init_118 (gm1 (List.mem_of_getElem? (i := 133) rfl) rfl) ?_
  replace hw := hw.2.2
  refine r_topn fun hv41 rv42 ehv41 erv42 => ?_
  replace hw := hw hv41 rv42 ehv41 erv42
  refine r_putPF C ff_RX12_75_11 hnm hw.1 (fun _ _ _ => rfl) dX12_init_120 ?_
  replace hw := hw.2
  refine r_toph fun hv43 ehv43 => ?_
  replace hw := hw hv43 ehv43
  refine r_aload_n C dX12_init_123 0 rfl ?_
  refine r_ldc (v := 125000) C (gm6 (List.mem_of_getElem? (i := 199) rfl) rfl) dX12_init_124 ?_
  refine r_newI C hw.1 hw.2.1 dX12_init_126 (gm1 (List.mem_of_getElem? (i := 133) rfl) rfl) ?_
  replace hw := hw.2.2
  refine r_topn fun hv44 rv45 ehv44 erv45 => ?_
  replace hw := hw hv44 rv45 ehv44 erv45
  refine r_putPF C ff_RX12_78_11 hnm hw.1 (fun _ _ _ => rfl) dX12_init_128 ?_
  replace hw := hw.2
  refine r_toph fun hv46 ehv46 => ?_
  replace hw := hw hv46 ehv46
  refine r_aload_n C dX12_init_131 0 rfl ?_
  refine r_ldc (v := 125000) C (gm6 (List.mem_of_getElem? (i := 199) rfl) rfl) dX12_init_132 ?_
  refine r_newI C hw.1 hw.2.1 dX12_init_134 (gm1 (List.mem_of_getElem? (i := 133) rfl) rfl) ?_
  replace hw := hw.2.2
  refine r_topn fun hv47 rv48 ehv47 erv48 => ?_
  replace hw := hw hv47 rv48 ehv47 erv48
  refine r_putPF C ff_RX12_81_11 hnm hw.1 (fun _ _ _ => rfl) dX12_init_136 ?_
  replace hw := hw.2
  refine r_toph fun hv49 ehv49 => ?_
  replace hw := hw hv49 ehv49
  refine r_aload_n C dX12_init_139 0 rfl ?_
  refine r_sipush (v := 128) C dX12_init_140 (by decide) ?_
  refine r_newI C hw.1 hw.2.1 dX12_init_143 (gm1 (List.mem_of_getElem? (i := 133) rfl) rfl) ?_
  replace hw := hw.2.2
  refine r_topn fun hv50 rv51 ehv50 erv51 => ?_
  replace hw := hw hv50 rv51 ehv50 erv51
  refine r_putPF C ff_RX12_84_11 hnm hw.1 (fun _ _ _ => rfl) dX12_init_145 ?_
  replace hw := hw.2
  refine r_toph fun hv52 ehv52 => ?_
  replace hw := hw hv52 ehv52
  refine r_aload_n C dX12_init_148 0 rfl ?_
  refine r_sipush (v := 128) C dX12_init_149 (by decide) ?_
  refine r_newI C hw.1 hw.2.1 dX12_init_152 (gm1 (List.mem_of_getElem? (i := 133) rfl) rfl) ?_
  replace hw := hw.2.2
  refine r_topn fun hv53 rv54 ehv53 erv54 => ?_
  replace hw := hw hv53 rv54 ehv53 erv54
  refine r_putPF C ff_RX12_87_11 hnm hw.1 (fun _ _ _ => rfl) dX12_init_154 ?_
  replace hw := hw.2
  refine r_toph fun hv55 ehv55 => ?_
  replace hw := hw hv55 ehv55
  refine r_aload_n C dX12_init_157 0 rfl ?_
  refine r_sipush (v := 128) C dX12_init_158 (by decide) ?_
  refine r_newI C hw.1 hw.2.1 dX12_init_161 (gm1 (List.mem_of_getElem? (i := 133) rfl) rfl) ?_
  replace hw := hw.2.2
  refine r_topn fun hv56 rv57 ehv56 erv57 => ?_
  replace hw := hw hv56 rv57 ehv56 erv57
  refine r_putPF C ff_RX12_90_11 hnm hw.1 (fun _ _ _ => rfl) dX12_init_163 ?_
  replace hw := hw.2
  refine r_toph fun hv58 ehv58 => ?_
  replace hw := hw hv58 ehv58
  refine r_aload_n C dX12_init_166 0 rfl ?_
  refine r_sipush (v := 128) C dX12_init_167 (by decide) ?_
  refine r_newI C hw.1 hw.2.1 dX12_init_170 (gm1 (List.mem_of_getElem? (i := 133) rfl) rfl) ?_
  replace hw := hw.2.2
  refine r_topn fun hv59 rv60 ehv59 erv60 => ?_
  replace hw := hw hv59 rv60 ehv59 erv60
  refine r_putPF C ff_RX12_93_11 hnm hw.1 (fun _ _ _ => rfl) dX12_init_172 ?_
  replace hw := hw.2
  refine r_toph fun hv61 ehv61 => ?_
  replace hw := hw hv61 ehv61
  refine r_aload_n C dX12_init_175 0 rfl ?_
  refine r_iconst (v := 3) C dX12_init_176 (by decide) ?_
  refine r_newI C hw.1 hw.2.1 dX12_init_177 (gm1 (List.mem_of_getElem? (i := 133) rfl) rfl) ?_
  replace hw := hw.2.2
  refine r_topn fun hv62 rv63 ehv62 erv63 => ?_
  replace hw := hw hv62 rv63 ehv62 erv63
  refine r_putPF C ff_RX12_96_11 hnm hw.1 (fun _ _ _ => rfl) dX12_init_179 ?_
  replace hw := hw.2
  refine r_toph fun hv64 ehv64 => ?_
  replace hw := hw hv64 ehv64
  refine r_aload_n C dX12_init_182 0 rfl ?_
  refine r_bipush (v := 24) C dX12_init_183 (by decide) ?_
  refine r_newI C hw.1 hw.2.1 dX12_init_185 (gm1 (List.mem_of_getElem? (i := 133) rfl) rfl) ?_
  replace hw := hw.2.2
  refine r_topn fun hv65 rv66 ehv65 erv66 => ?_
  replace hw := hw hv65 rv66 ehv65 erv66
  refine r_putPF C ff_RX12_99_11 hnm hw.1 (fun _ _ _ => rfl) dX12_init_187 ?_
  replace hw := hw.2
  refine r_toph fun hv67 ehv67 => ?_
  replace hw := hw hv67 ehv67
  refine r_aload_n C dX12_init_190 0 rfl ?_
  refine r_iconst (v := (-1)) C dX12_init_191 (by decide) ?_
  refine r_putI C fp_RX12_102_11 hw.1 rfl dX12_init_192 ?_
  replace hw := hw.2
  refine r_toph fun hv68 ehv68 => ?_
  replace hw := hw hv68 ehv68
  refine r_aload_n C dX12_init_195 0 rfl ?_
  refine r_sipush (v := 740) C dX12_init_196 (by decide) ?_
  refine r_newI C hw.1 hw.2.1 dX12_init_199 (gm1 (List.mem_of_getElem? (i := 133) rfl) rfl) ?_
  replace hw := hw.2.2
  refine r_topn fun hv69 rv70 ehv69 erv70 => ?_
  replace hw := hw hv69 rv70 ehv69 erv70
  refine r_putPF C ff_RX12_105_11 hnm hw.1 (fun _ _ _ => rfl) dX12_init_201 ?_
  replace hw := hw.2
  refine r_toph fun hv71 ehv71 => ?_
  replace hw := hw hv71 ehv71
  refine r_aload_n C dX12_init_204 0 rfl ?_
  refine r_bipush (v := 16) C dX12_init_205 (by decide) ?_
  refine r_newJ C hw.1 hw.2.1 dX12_init_207 (gm1 (List.mem_of_getElem? (i := 134) rfl) rfl) ?_
  replace hw := hw.2.2
  refine r_topn fun hv72 rv73 ehv72 erv73 => ?_
  replace hw := hw hv72 rv73 ehv72 erv73
  refine r_putPF C ff_RX12_108_11 hnm hw.1 (fun _ _ _ => rfl) dX12_init_209 ?_
  replace hw := hw.2
  refine r_toph fun hv74 ehv74 => ?_
  replace hw := hw hv74 ehv74
  refine r_aload_n C dX12_init_212 0 rfl ?_
  refine r_iconst (v := 2) C dX12_init_213 (by decide) ?_
  refine r_newZ C hw.1 hw.2.1 dX12_init_214 (gm7 (List.mem_of_getElem? (i := 142) rfl) rfl) ?_
  replace hw := hw.2.2
  refine r_topn fun hv75 rv76 ehv75 erv76 => ?_
  replace hw := hw hv75 rv76 ehv75 erv76
  refine r_putPF C ff_RX12_111_11 hnm hw.1 (fun _ _ _ => rfl) dX12_init_216 ?_
  replace hw := hw.2
  refine r_toph fun hv77 ehv77 => ?_
  replace hw := hw hv77 ehv77
  refine r_aload_n C dX12_init_219 0 rfl ?_
  have hob := hw.1
  obtain ⟨rv78, hp, hw⟩ := hw.2
  refine r_getP C fl_RX12_47_11 hob hp (fun _ _ _ => rfl) dX12_init_220 ?_
  refine r_iconst (v := 0) C dX12_init_223 (by decide) ?_
  refine r_ldc2 (v := 7499639) C (gm6 (List.mem_of_getElem? (i := 200) rfl) rfl) dX12_init_224 ?_
  refine r_lastore C hw.1 hw.2.1 dX12_init_227 ?_
  replace hw := hw.2.2
  refine r_toph fun hv79 ehv79 => ?_
  replace hw := hw hv79 ehv79
  refine r_aload_n C dX12_init_228 0 rfl ?_
  have hob := hw.1
  obtain ⟨rv80, hp, hw⟩ := hw.2
  refine r_getP C fl_RX12_47_11 hob hp (fun _ _ _ => rfl) dX12_init_229 ?_
  refine r_iconst (v := 1) C dX12_init_232 (by decide) ?_
  refine r_ldc2 (v := 1953064037) C (gm6 (List.mem_of_getElem? (i := 201) rfl) rfl) dX12_init_233 ?_
  refine r_lastore C hw.1 hw.2.1 dX12_init_236 ?_
  replace hw := hw.2.2
  refine r_toph fun hv81 ehv81 => ?_
  replace hw := hw hv81 ehv81
  refine r_aload_n C dX12_init_237 0 rfl ?_
  have hob := hw.1
  obtain ⟨rv82, hp, hw⟩ := hw.2
  refine r_getP C fl_RX12_47_11 hob hp (fun _ _ _ => rfl) dX12_init_238 ?_
  refine r_iconst (v := 2) C dX12_init_241 (by decide) ?_
  refine r_ldc2 (v := 1918985844) C (gm6 (List.mem_of_getElem? (i := 202) rfl) rfl) dX12_init_242 ?_
  refine r_lastore C hw.1 hw.2.1 dX12_init_245 ?_
  replace hw := hw.2.2
  refine r_toph fun hv83 ehv83 => ?_
  replace hw := hw hv83 ehv83
  refine r_aload_n C dX12_init_246 0 rfl ?_
  have hob := hw.1
  obtain ⟨rv84, hp, hw⟩ := hw.2
  refine r_getP C fl_RX12_47_11 hob hp (fun _ _ _ => rfl) dX12_init_247 ?_
  refine r_iconst (v := 3) C dX12_init_250 (by decide) ?_
  refine r_ldc2 (v := 1886350437) C (gm6 (List.mem_of_getElem? (i := 203) rfl) rfl) dX12_init_251 ?_
  refine r_lastore C hw.1 hw.2.1 dX12_init_254 ?_
  replace hw := hw.2.2
  refine r_toph fun hv85 ehv85 => ?_
  replace hw := hw hv85 ehv85
  refine r_aload_n C dX12_init_255 0 rfl ?_
  have hob := hw.1
  obtain ⟨rv86, hp, hw⟩ := hw.2
  refine r_getP C fl_RX12_47_11 hob hp (fun _ _ _ => rfl) dX12_init_256 ?_
  refine r_iconst (v := 4) C dX12_init_259 (by decide) ?_
  refine r_ldc2 (v := 1919905893) C (gm6 (List.mem_of_getElem? (i := 204) rfl) rfl) dX12_init_260 ?_
  refine r_lastore C hw.1 hw.2.1 dX12_init_263 ?_
  replace hw := hw.2.2
  refine r_toph fun hv87 ehv87 => ?_
  replace hw := hw hv87 ehv87
  refine r_aload_n C dX12_init_264 0 rfl ?_
  have hob := hw.1
  obtain ⟨rv88, hp, hw⟩ := hw.2
  refine r_getP C fl_RX12_47_11 hob hp (fun _ _ _ => rfl) dX12_init_265 ?_
  refine r_iconst (v := 5) C dX12_init_268 (by decide) ?_
  refine r_ldc2 (v := 1836019570) C (gm6 (List.mem_of_getElem? (i := 205) rfl) rfl) dX12_init_269 ?_
  refine r_lastore C hw.1 hw.2.1 dX12_init_272 ?_
  replace hw := hw.2.2
  refine r_toph fun hv89 ehv89 => ?_
  replace hw := hw hv89 ehv89
  refine r_aload_n C dX12_init_273 0 rfl ?_
  have hob := hw.1
  obtain ⟨rv90, hp, hw⟩ := hw.2
  refine r_getP C fl_RX12_47_11 hob hp (fun _ _ _ => rfl) dX12_init_274 ?_
  refine r_bipush (v := 6) C dX12_init_277 (by decide) ?_
  refine r_ldc2 (v := 126931137819237) C (gm6 (List.mem_of_getElem? (i := 206) rfl) rfl) dX12_init_279 ?_
  refine r_lastore C hw.1 hw.2.1 dX12_init_282 ?_
  replace hw := hw.2.2
  refine r_toph fun hv91 ehv91 => ?_
  replace hw := hw hv91 ehv91
  refine r_aload_n C dX12_init_283 0 rfl ?_
  have hob := hw.1
  obtain ⟨rv92, hp, hw⟩ := hw.2
  refine r_getP C fl_RX12_47_11 hob hp (fun _ _ _ => rfl) dX12_init_284 ?_
  refine r_bipush (v := 7) C dX12_init_287 (by decide) ?_
  refine r_ldc2 (v := 108187867505765) C (gm6 (List.mem_of_getElem? (i := 207) rfl) rfl) dX12_init_289 ?_
  refine r_lastore C hw.1 hw.2.1 dX12_init_292 ?_
  replace hw := hw.2.2
  refine r_toph fun hv93 ehv93 => ?_
  replace hw := hw hv93 ehv93
  refine r_aload_n C dX12_init_293 0 rfl ?_
  have hob := hw.1
  obtain ⟨rv94, hp, hw⟩ := hw.2
  refine r_getP C fl_RX12_47_11 hob hp (fun _ _ _ => rfl) dX12_init_294 ?_
  refine r_bipush (v := 8) C dX12_init_297 (by decide) ?_
  refine r_ldc2 (v := 418497262196) C (gm6 (List.mem_of_getElem? (i := 208) rfl) rfl) dX12_init_299 ?_
  refine r_lastore C hw.1 hw.2.1 dX12_init_302 ?_
  replace hw := hw.2.2
  refine r_toph fun hv95 ehv95 => ?_
  replace hw := hw hv95 ehv95
  refine r_aload_n C dX12_init_303 0 rfl ?_
  have hob := hw.1
  obtain ⟨rv96, hp, hw⟩ := hw.2
  refine r_getP C fl_RX12_47_11 hob hp (fun _ _ _ => rfl) dX12_init_304 ?_
  refine r_bipush (v := 9) C dX12_init_307 (by decide) ?_
  refine r_ldc2 (v := 7566702) C (gm6 (List.mem_of_getElem? (i := 209) rfl) rfl) dX12_init_309 ?_
  refine r_lastore C hw.1 hw.2.1 dX12_init_312 ?_
  replace hw := hw.2.2
  refine r_toph fun hv97 ehv97 => ?_
  replace hw := hw hv97 ehv97
  refine r_aload_n C dX12_init_313 0 rfl ?_
  have hob := hw.1
  obtain ⟨rv98, hp, hw⟩ := hw.2
  refine r_getP C fl_RX12_47_11 hob hp (fun _ _ _ => rfl) dX12_init_314 ?_
  refine r_bipush (v := 10) C dX12_init_317 (by decide) ?_
  refine r_ldc2 (v := 1818846579) C (gm6 (List.mem_of_getElem? (i := 210) rfl) rfl) dX12_init_319 ?_
  refine r_lastore C hw.1 hw.2.1 dX12_init_322 ?_
  replace hw := hw.2.2
  refine r_toph fun hv99 ehv99 => ?_
  replace hw := hw hv99 ehv99
  refine r_aload_n C dX12_init_323 0 rfl ?_
  have hob := hw.1
  obtain ⟨rv100, hp, hw⟩ := hw.2
  refine r_getP C fl_RX12_47_11 hob hp (fun _ _ _ => rfl) dX12_init_324 ?_
  refine r_bipush (v := 11) C dX12_init_327 (by decide) ?_
  refine r_ldc2 (v := 474316174440) C (gm6 (List.mem_of_getElem? (i := 211) rfl) rfl) dX12_init_329 ?_
  refine r_lastore C hw.1 hw.2.1 dX12_init_332 ?_
  replace hw := hw.2.2
  refine r_toph fun hv101 ehv101 => ?_
  replace hw := hw hv101 ehv101
  refine r_aload_n C dX12_init_333 0 rfl ?_
  have hob := hw.1
  obtain ⟨rv102, hp, hw⟩ := hw.2
  refine r_getP C fl_RX12_47_11 hob hp (fun _ _ _ => rfl) dX12_init_334 ?_
  refine r_bipush (v := 12) C dX12_init_337 (by decide) ?_
  refine r_ldc2 (v := 1700885364) C (gm6 (List.mem_of_getElem? (i := 212) rfl) rfl) dX12_init_339 ?_
  refine r_lastore C hw.1 hw.2.1 dX12_init_342 ?_
  replace hw := hw.2.2
  refine r_toph fun hv103 ehv103 => ?_
  replace hw := hw hv103 ehv103
  refine r_aload_n C dX12_init_343 0 rfl ?_
  have hob := hw.1
  obtain ⟨rv104, hp, hw⟩ := hw.2
  refine r_getP C fl_RX12_47_11 hob hp (fun _ _ _ => rfl) dX12_init_344 ?_
  refine r_bipush (v := 13) C dX12_init_347 (by decide) ?_
  refine r_ldc2 (v := 495791207528) C (gm6 (List.mem_of_getElem? (i := 213) rfl) rfl) dX12_init_349 ?_
  refine r_lastore C hw.1 hw.2.1 dX12_init_352 ?_
  replace hw := hw.2.2
  refine r_toph fun hv105 ehv105 => ?_
  replace hw := hw hv105 ehv105
  refine r_aload_n C dX12_init_353 0 rfl ?_
  have hob := hw.1
  obtain ⟨rv106, hp, hw⟩ := hw.2
  refine r_getP C fl_RX12_47_11 hob hp (fun _ _ _ => rfl) dX12_init_354 ?_
  refine r_bipush (v := 14) C dX12_init_357 (by decide) ?_
  refine r_ldc2 (v := 2003137396) C (gm6 (List.mem_of_getElem? (i := 214) rfl) rfl) dX12_init_359 ?_
  refine r_lastore C hw.1 hw.2.1 dX12_init_362 ?_
  replace hw := hw.2.2
  refine r_toph fun hv107 ehv107 => ?_
  replace hw := hw hv107 ehv107
  refine r_aload_n C dX12_init_363 0 rfl ?_
  have hob := hw.1
  obtain ⟨rv108, hp, hw⟩ := hw.2
  refine r_getP C fl_RX12_47_11 hob hp (fun _ _ _ => rfl) dX12_init_364 ?_
  refine r_bipush (v := 15) C dX12_init_367 (by decide) ?_
  refine r_ldc2 (v := 495740085349) C (gm6 (List.mem_of_getElem? (i := 215) rfl) rfl) dX12_init_369 ?_
  refine r_lastore C hw.1 hw.2.1 dX12_init_372 ?_
  replace hw := hw.2.2
  refine r_toph fun hv109 ehv109 => ?_
  replace hw := hw hv109 ehv109
  refine r_aload_n C dX12_init_373 0 rfl ?_
  have hob := hw.1
  obtain ⟨rv110, hp, hw⟩ := hw.2
  refine r_getP C fl_RX12_47_11 hob hp (fun _ _ _ => rfl) dX12_init_374 ?_
  refine r_bipush (v := 16) C dX12_init_377 (by decide) ?_
  refine r_ldc2 (v := 1953854062) C (gm6 (List.mem_of_getElem? (i := 216) rfl) rfl) dX12_init_379 ?_
  refine r_lastore C hw.1 hw.2.1 dX12_init_382 ?_
  replace hw := hw.2.2
  refine r_toph fun hv111 ehv111 => ?_
  replace hw := hw hv111 ehv111
  refine r_aload_n C dX12_init_383 0 rfl ?_
  have hob := hw.1
  obtain ⟨rv112, hp, hw⟩ := hw.2
  refine r_getP C fl_RX12_47_11 hob hp (fun _ _ _ => rfl) dX12_init_384 ?_
  refine r_bipush (v := 17) C dX12_init_387 (by decide) ?_
  refine r_ldc2 (v := 2002872692) C (gm6 (List.mem_of_getElem? (i := 217) rfl) rfl) dX12_init_389 ?_
  refine r_lastore C hw.1 hw.2.1 dX12_init_392 ?_
  replace hw := hw.2.2
  refine r_toph fun hv113 ehv113 => ?_
  replace hw := hw hv113 ehv113
  refine r_aload_n C dX12_init_393 0 rfl ?_
  have hob := hw.1
  replace hw := hw.2
  refine r_callV C (As := []) (rest := []) (c_X12_plainLagoon G hv113 a0  _ hw) yl_X12_plainLagoon (gm6 (List.mem_of_getElem? (i := 218) rfl) rfl) (gm6 (List.mem_of_getElem? (i := 220) rfl) rfl) (ci := 11) rfl (by decide) (gsel (List.mem_of_getElem? (i := 39) rfl)) hob (by decide) rfl (Nat.le_of_ble_eq_true rfl) dX12_init_394 rfl (kV fun hv114  hw => ?_)
  refine r_iconst (v := 0) C dX12_init_397 (by decide) ?_
  refine r_istore_n C dX12_init_398 [(1, .int 0), (0, .ref (G.1 + a0))] (by decide) rfl ?_
  refine r_sub [1, 0] rfl ?_
  obtain ⟨n, hw⟩ := hw
  exact tl_X12_init_399 C hr hnm  n _ _ _ hw
theorem dX12_peek_0 : decode cX12_peek 0 = .ok (.aload_n 0, 1) := by decide +kernel
theorem dX12_peek_1 : decode cX12_peek 1 = .ok (.getfield 21, 3) := by decide +kernel
theorem dX12_peek_4 : decode cX12_peek 4 = .ok (.aload_n 0, 1) := by decide +kernel
theorem dX12_peek_5 : decode cX12_peek 5 = .ok (.getfield 18, 3) := by decide +kernel
theorem dX12_peek_8 : decode cX12_peek 8 = .ok (.if_icmp .ge 19, 3) := by decide +kernel
theorem dX12_peek_11 : decode cX12_peek 11 = .ok (.aload_n 0, 1) := by decide +kernel
theorem dX12_peek_12 : decode cX12_peek 12 = .ok (.getfield 14, 3) := by decide +kernel
theorem dX12_peek_15 : decode cX12_peek 15 = .ok (.aload_n 0, 1) := by decide +kernel
theorem dX12_peek_16 : decode cX12_peek 16 = .ok (.getfield 21, 3) := by decide +kernel
theorem dX12_peek_19 : decode cX12_peek 19 = .ok (.baload, 1) := by decide +kernel
theorem dX12_peek_20 : decode cX12_peek 20 = .ok (.sipush 255, 3) := by decide +kernel
theorem dX12_peek_23 : decode cX12_peek 23 = .ok (.iand, 1) := by decide +kernel
theorem dX12_peek_24 : decode cX12_peek 24 = .ok (.goto 4, 3) := by decide +kernel
theorem dX12_peek_27 : decode cX12_peek 27 = .ok (.iconst (-1), 1) := by decide +kernel
theorem dX12_peek_28 : decode cX12_peek 28 = .ok (.ireturn, 1) := by decide +kernel
def wp_X12_peek (h : AH) (a0 : Nat) (post : AH → Int32 → Prop) : Prop := (ob h a0 11) ∧ ((ob h a0 11) ∧ (((aI h a0 3) ≤ (aI h a0 4) → (post h (-1))) ∧ (¬ (aI h a0 3) ≤ (aI h a0 4) → ((ob h a0 11) ∧ (∃ rv1, aP h a0 1 = some rv1 ∧ ((ob h a0 11) ∧ ((ob h rv1 12) ∧ ((vp_in (aI h a0 4) (aL h rv1)) ∧ (post h ((aI h rv1 (aI h a0 4).toNatClampNeg) &&& (255 : Int32)))))))))))
set_option maxRecDepth 100000 in
theorem c_X12_peek (G : GG) (h : AH) (a0 : Nat) (post : AH → Int32 → Prop) (hw : wp_X12_peek h a0 post) : MC G yX12_peek cX12_peek 1 (some .int) 0 0 h [.ref (G.1 + a0)] (pI post) := by
  refine MC.of (lv := [(0, .ref (G.1 + a0))]) (by decide) (Nat.le_of_ble_eq_true rfl) rfl fun p l e R s m args below meth c C hr hnm => ?_
  unfold wp_X12_peek at hw
  refine r_aload_n C dX12_peek_0 0 rfl ?_
  refine r_getI C fl_RX12_21_11 hw.1 (fun _ _ _ => rfl) dX12_peek_1 ?_
  replace hw := hw.2
  refine r_aload_n C dX12_peek_4 0 rfl ?_
  refine r_getI C fl_RX12_18_11 hw.1 (fun _ _ _ => rfl) dX12_peek_5 ?_
  replace hw := hw.2
  refine r_icmp_ge C dX12_peek_8 27 (by decide) (fun hc => ?_) (fun hc => ?_)
  · replace hw := hw.1 hc
    refine r_iconst (v := (-1)) C dX12_peek_27 (by decide) ?_
    exact r_iret C hr dX12_peek_28 hw
  · replace hw := hw.2 hc
    refine r_aload_n C dX12_peek_11 0 rfl ?_
    have hob := hw.1
    obtain ⟨rv1, hp, hw⟩ := hw.2
    refine r_getP C fl_RX12_14_11 hob hp (fun _ _ _ => rfl) dX12_peek_12 ?_
    refine r_aload_n C dX12_peek_15 0 rfl ?_
    refine r_getI C fl_RX12_21_11 hw.1 (fun _ _ _ => rfl) dX12_peek_16 ?_
    replace hw := hw.2
    refine r_baload C hw.1 hw.2.1 dX12_peek_19 ?_
    replace hw := hw.2.2
    refine r_sipush (v := 255) C dX12_peek_20 (by decide) ?_
    refine r_iand C dX12_peek_23 ?_
    refine r_goto C dX12_peek_24 28 (by decide) ?_
    exact r_iret C hr dX12_peek_28 hw
theorem dX12_isSmall_0 : decode cX12_isSmall 0 = .ok (.iload_n 0, 1) := by decide +kernel
theorem dX12_isSmall_1 : decode cX12_isSmall 1 = .ok (.bipush 97, 2) := by decide +kernel
theorem dX12_isSmall_3 : decode cX12_isSmall 3 = .ok (.if_icmp .lt 13, 3) := by decide +kernel
theorem dX12_isSmall_6 : decode cX12_isSmall 6 = .ok (.iload_n 0, 1) := by decide +kernel
theorem dX12_isSmall_7 : decode cX12_isSmall 7 = .ok (.bipush 122, 2) := by decide +kernel
theorem dX12_isSmall_9 : decode cX12_isSmall 9 = .ok (.if_icmp .gt 7, 3) := by decide +kernel
theorem dX12_isSmall_12 : decode cX12_isSmall 12 = .ok (.iconst 1, 1) := by decide +kernel
theorem dX12_isSmall_13 : decode cX12_isSmall 13 = .ok (.goto 4, 3) := by decide +kernel
theorem dX12_isSmall_16 : decode cX12_isSmall 16 = .ok (.iconst 0, 1) := by decide +kernel
theorem dX12_isSmall_17 : decode cX12_isSmall 17 = .ok (.ireturn, 1) := by decide +kernel
def wp_X12_isSmall (h : AH) (x0 : Int32) (post : AH → Int32 → Prop) : Prop := (x0 < 97 → (((0 : Int32) = 0 ∨ (0 : Int32) = 1) ∧ post h 0)) ∧ (¬ x0 < 97 → ((122 < x0 → (((0 : Int32) = 0 ∨ (0 : Int32) = 1) ∧ post h 0)) ∧ (¬ 122 < x0 → (((1 : Int32) = 0 ∨ (1 : Int32) = 1) ∧ post h 1))))
set_option maxRecDepth 100000 in
theorem c_X12_isSmall (G : GG) (h : AH) (x0 : Int32) (post : AH → Int32 → Prop) (hw : wp_X12_isSmall h x0 post) : MC G yX12_isSmall cX12_isSmall 1 (some .boolean) 0 0 h [.int x0] (pI post) := by
  refine MC.of (lv := [(0, .int x0)]) (by decide) (Nat.le_of_ble_eq_true rfl) rfl fun p l e R s m args below meth c C hr hnm => ?_
  unfold wp_X12_isSmall at hw
  refine r_iload_n C dX12_isSmall_0 0 rfl ?_
  refine r_bipush (v := 97) C dX12_isSmall_1 (by decide) ?_
  refine r_icmp_lt C dX12_isSmall_3 16 (by decide) (fun hc => ?_) (fun hc => ?_)
  · replace hw := hw.1 hc
    refine r_iconst (v := 0) C dX12_isSmall_16 (by decide) ?_
    exact r_zret C hr dX12_isSmall_17 hw.1 hw.2
  · replace hw := hw.2 hc
    refine r_iload_n C dX12_isSmall_6 0 rfl ?_
    refine r_bipush (v := 122) C dX12_isSmall_7 (by decide) ?_
    refine r_icmp_gt C dX12_isSmall_9 16 (by decide) (fun hc => ?_) (fun hc => ?_)
    · replace hw := hw.1 hc
      refine r_iconst (v := 0) C dX12_isSmall_16 (by decide) ?_
      exact r_zret C hr dX12_isSmall_17 hw.1 hw.2
    · replace hw := hw.2 hc
      refine r_iconst (v := 1) C dX12_isSmall_12 (by decide) ?_
      refine r_goto C dX12_isSmall_13 17 (by decide) ?_
      exact r_zret C hr dX12_isSmall_17 hw.1 hw.2
theorem dX12_isDigit_0 : decode cX12_isDigit 0 = .ok (.iload_n 0, 1) := by decide +kernel
theorem dX12_isDigit_1 : decode cX12_isDigit 1 = .ok (.bipush 48, 2) := by decide +kernel
theorem dX12_isDigit_3 : decode cX12_isDigit 3 = .ok (.if_icmp .lt 13, 3) := by decide +kernel
theorem dX12_isDigit_6 : decode cX12_isDigit 6 = .ok (.iload_n 0, 1) := by decide +kernel
theorem dX12_isDigit_7 : decode cX12_isDigit 7 = .ok (.bipush 57, 2) := by decide +kernel
theorem dX12_isDigit_9 : decode cX12_isDigit 9 = .ok (.if_icmp .gt 7, 3) := by decide +kernel
theorem dX12_isDigit_12 : decode cX12_isDigit 12 = .ok (.iconst 1, 1) := by decide +kernel
theorem dX12_isDigit_13 : decode cX12_isDigit 13 = .ok (.goto 4, 3) := by decide +kernel
theorem dX12_isDigit_16 : decode cX12_isDigit 16 = .ok (.iconst 0, 1) := by decide +kernel
theorem dX12_isDigit_17 : decode cX12_isDigit 17 = .ok (.ireturn, 1) := by decide +kernel
def wp_X12_isDigit (h : AH) (x0 : Int32) (post : AH → Int32 → Prop) : Prop := (x0 < 48 → (((0 : Int32) = 0 ∨ (0 : Int32) = 1) ∧ post h 0)) ∧ (¬ x0 < 48 → ((57 < x0 → (((0 : Int32) = 0 ∨ (0 : Int32) = 1) ∧ post h 0)) ∧ (¬ 57 < x0 → (((1 : Int32) = 0 ∨ (1 : Int32) = 1) ∧ post h 1))))
set_option maxRecDepth 100000 in
theorem c_X12_isDigit (G : GG) (h : AH) (x0 : Int32) (post : AH → Int32 → Prop) (hw : wp_X12_isDigit h x0 post) : MC G yX12_isDigit cX12_isDigit 1 (some .boolean) 0 0 h [.int x0] (pI post) := by
  refine MC.of (lv := [(0, .int x0)]) (by decide) (Nat.le_of_ble_eq_true rfl) rfl fun p l e R s m args below meth c C hr hnm => ?_
  unfold wp_X12_isDigit at hw
  refine r_iload_n C dX12_isDigit_0 0 rfl ?_
  refine r_bipush (v := 48) C dX12_isDigit_1 (by decide) ?_
  refine r_icmp_lt C dX12_isDigit_3 16 (by decide) (fun hc => ?_) (fun hc => ?_)
  · replace hw := hw.1 hc
    refine r_iconst (v := 0) C dX12_isDigit_16 (by decide) ?_
    exact r_zret C hr dX12_isDigit_17 hw.1 hw.2
  · replace hw := hw.2 hc
    refine r_iload_n C dX12_isDigit_6 0 rfl ?_
    refine r_bipush (v := 57) C dX12_isDigit_7 (by decide) ?_
    refine r_icmp_gt C dX12_isDigit_9 16 (by decide) (fun hc => ?_) (fun hc => ?_)
    · replace hw := hw.1 hc
      refine r_iconst (v := 0) C dX12_isDigit_16 (by decide) ?_
      exact r_zret C hr dX12_isDigit_17 hw.1 hw.2
    · replace hw := hw.2 hc
      refine r_iconst (v := 1) C dX12_isDigit_12 (by decide) ?_
      refine r_goto C dX12_isDigit_13 17 (by decide) ?_
      exact r_zret C hr dX12_isDigit_17 hw.1 hw.2
theorem dX12_next_0 : decode cX12_next 0 = .ok (.aload_n 0, 1) := by decide +kernel
theorem dX12_next_1 : decode cX12_next 1 = .ok (.invokevirtual 154, 3) := by decide +kernel
theorem dX12_next_4 : decode cX12_next 4 = .ok (.bipush 32, 2) := by decide +kernel
theorem dX12_next_6 : decode cX12_next 6 = .ok (.if_icmp .eq 12, 3) := by decide +kernel
theorem dX12_next_9 : decode cX12_next 9 = .ok (.aload_n 0, 1) := by decide +kernel
theorem dX12_next_10 : decode cX12_next 10 = .ok (.invokevirtual 154, 3) := by decide +kernel
theorem dX12_next_13 : decode cX12_next 13 = .ok (.bipush 10, 2) := by decide +kernel
theorem dX12_next_15 : decode cX12_next 15 = .ok (.if_icmp .ne 16, 3) := by decide +kernel
theorem dX12_next_18 : decode cX12_next 18 = .ok (.aload_n 0, 1) := by decide +kernel
theorem dX12_next_19 : decode cX12_next 19 = .ok (.dup, 1) := by decide +kernel
theorem dX12_next_20 : decode cX12_next 20 = .ok (.getfield 21, 3) := by decide +kernel
theorem dX12_next_23 : decode cX12_next 23 = .ok (.iconst 1, 1) := by decide +kernel
theorem dX12_next_24 : decode cX12_next 24 = .ok (.iadd, 1) := by decide +kernel
theorem dX12_next_25 : decode cX12_next 25 = .ok (.putfield 21, 3) := by decide +kernel
theorem dX12_next_28 : decode cX12_next 28 = .ok (.goto (-28), 3) := by decide +kernel
theorem dX12_next_31 : decode cX12_next 31 = .ok (.aload_n 0, 1) := by decide +kernel
theorem dX12_next_32 : decode cX12_next 32 = .ok (.aload_n 0, 1) := by decide +kernel
theorem dX12_next_33 : decode cX12_next 33 = .ok (.getfield 21, 3) := by decide +kernel
theorem dX12_next_36 : decode cX12_next 36 = .ok (.putfield 158, 3) := by decide +kernel
theorem dX12_next_39 : decode cX12_next 39 = .ok (.aload_n 0, 1) := by decide +kernel
theorem dX12_next_40 : decode cX12_next 40 = .ok (.iconst 0, 1) := by decide +kernel
theorem dX12_next_41 : decode cX12_next 41 = .ok (.putfield 161, 3) := by decide +kernel
theorem dX12_next_44 : decode cX12_next 44 = .ok (.aload_n 0, 1) := by decide +kernel
theorem dX12_next_45 : decode cX12_next 45 = .ok (.getfield 18, 3) := by decide +kernel
theorem dX12_next_48 : decode cX12_next 48 = .ok (.aload_n 0, 1) := by decide +kernel
theorem dX12_next_49 : decode cX12_next 49 = .ok (.getfield 24, 3) := by decide +kernel
theorem dX12_next_52 : decode cX12_next 52 = .ok (.if_icmp .le 28, 3) := by decide +kernel
theorem dX12_next_55 : decode cX12_next 55 = .ok (.aload_n 0, 1) := by decide +kernel
theorem dX12_next_56 : decode cX12_next 56 = .ok (.getfield 21, 3) := by decide +kernel
theorem dX12_next_59 : decode cX12_next 59 = .ok (.aload_n 0, 1) := by decide +kernel
theorem dX12_next_60 : decode cX12_next 60 = .ok (.getfield 24, 3) := by decide +kernel
theorem dX12_next_63 : decode cX12_next 63 = .ok (.if_icmp .lt 17, 3) := by decide +kernel
theorem dX12_next_66 : decode cX12_next 66 = .ok (.aload_n 0, 1) := by decide +kernel
theorem dX12_next_67 : decode cX12_next 67 = .ok (.aload_n 0, 1) := by decide +kernel
theorem dX12_next_68 : decode cX12_next 68 = .ok (.getfield 24, 3) := by decide +kernel
theorem dX12_next_71 : decode cX12_next 71 = .ok (.putfield 158, 3) := by decide +kernel
theorem dX12_next_74 : decode cX12_next 74 = .ok (.aload_n 0, 1) := by decide +kernel
theorem dX12_next_75 : decode cX12_next 75 = .ok (.iconst 4, 1) := by decide +kernel
theorem dX12_next_76 : decode cX12_next 76 = .ok (.putfield 164, 3) := by decide +kernel
theorem dX12_next_79 : decode cX12_next 79 = .ok (.return_, 1) := by decide +kernel
theorem dX12_next_80 : decode cX12_next 80 = .ok (.aload_n 0, 1) := by decide +kernel
theorem dX12_next_81 : decode cX12_next 81 = .ok (.invokevirtual 154, 3) := by decide +kernel
theorem dX12_next_84 : decode cX12_next 84 = .ok (.istore_n 1, 1) := by decide +kernel
theorem dX12_next_85 : decode cX12_next 85 = .ok (.iload_n 1, 1) := by decide +kernel
theorem dX12_next_86 : decode cX12_next 86 = .ok (.ifCond .ge 9, 3) := by decide +kernel
theorem dX12_next_89 : decode cX12_next 89 = .ok (.aload_n 0, 1) := by decide +kernel
theorem dX12_next_90 : decode cX12_next 90 = .ok (.iconst 0, 1) := by decide +kernel
theorem dX12_next_91 : decode cX12_next 91 = .ok (.putfield 164, 3) := by decide +kernel
theorem dX12_next_94 : decode cX12_next 94 = .ok (.return_, 1) := by decide +kernel
theorem dX12_next_95 : decode cX12_next 95 = .ok (.iload_n 1, 1) := by decide +kernel
theorem dX12_next_96 : decode cX12_next 96 = .ok (.invokestatic 167, 3) := by decide +kernel
theorem dX12_next_99 : decode cX12_next 99 = .ok (.ifCond .ne 41, 3) := by decide +kernel
theorem dX12_next_102 : decode cX12_next 102 = .ok (.iload_n 1, 1) := by decide +kernel
theorem dX12_next_103 : decode cX12_next 103 = .ok (.invokestatic 171, 3) := by decide +kernel
theorem dX12_next_106 : decode cX12_next 106 = .ok (.ifCond .ne 34, 3) := by decide +kernel
theorem dX12_next_109 : decode cX12_next 109 = .ok (.aload_n 0, 1) := by decide +kernel
theorem dX12_next_110 : decode cX12_next 110 = .ok (.iload_n 1, 1) := by decide +kernel
theorem dX12_next_111 : decode cX12_next 111 = .ok (.bipush 59, 2) := by decide +kernel
theorem dX12_next_113 : decode cX12_next 113 = .ok (.if_icmp .ne 7, 3) := by decide +kernel
theorem dX12_next_116 : decode cX12_next 116 = .ok (.iconst 3, 1) := by decide +kernel
theorem dX12_next_117 : decode cX12_next 117 = .ok (.goto 4, 3) := by decide +kernel
theorem dX12_next_120 : decode cX12_next 120 = .ok (.iconst 4, 1) := by decide +kernel
theorem dX12_next_121 : decode cX12_next 121 = .ok (.putfield 164, 3) := by decide +kernel
theorem dX12_next_124 : decode cX12_next 124 = .ok (.aload_n 0, 1) := by decide +kernel
theorem dX12_next_125 : decode cX12_next 125 = .ok (.iload_n 1, 1) := by decide +kernel
theorem dX12_next_126 : decode cX12_next 126 = .ok (.putfield 174, 3) := by decide +kernel
theorem dX12_next_129 : decode cX12_next 129 = .ok (.aload_n 0, 1) := by decide +kernel
theorem dX12_next_130 : decode cX12_next 130 = .ok (.dup, 1) := by decide +kernel
theorem dX12_next_131 : decode cX12_next 131 = .ok (.getfield 21, 3) := by decide +kernel
theorem dX12_next_134 : decode cX12_next 134 = .ok (.iconst 1, 1) := by decide +kernel
theorem dX12_next_135 : decode cX12_next 135 = .ok (.iadd, 1) := by decide +kernel
theorem dX12_next_136 : decode cX12_next 136 = .ok (.putfield 21, 3) := by decide +kernel
theorem dX12_next_139 : decode cX12_next 139 = .ok (.return_, 1) := by decide +kernel
theorem dX12_next_140 : decode cX12_next 140 = .ok (.iload_n 1, 1) := by decide +kernel
theorem dX12_next_141 : decode cX12_next 141 = .ok (.invokestatic 167, 3) := by decide +kernel
theorem dX12_next_144 : decode cX12_next 144 = .ok (.istore_n 2, 1) := by decide +kernel
theorem dX12_next_145 : decode cX12_next 145 = .ok (.iconst 1, 1) := by decide +kernel
theorem dX12_next_146 : decode cX12_next 146 = .ok (.istore_n 3, 1) := by decide +kernel
theorem dX12_next_147 : decode cX12_next 147 = .ok (.aload_n 0, 1) := by decide +kernel
theorem dX12_next_148 : decode cX12_next 148 = .ok (.lconst 0, 1) := by decide +kernel
theorem dX12_next_149 : decode cX12_next 149 = .ok (.putfield 177, 3) := by decide +kernel
theorem dX12_next_152 : decode cX12_next 152 = .ok (.aload_n 0, 1) := by decide +kernel
theorem dX12_next_153 : decode cX12_next 153 = .ok (.iconst 0, 1) := by decide +kernel
theorem dX12_next_154 : decode cX12_next 154 = .ok (.putfield 174, 3) := by decide +kernel
theorem dX12_next_157 : decode cX12_next 157 = .ok (.aload_n 0, 1) := by decide +kernel
theorem dX12_next_158 : decode cX12_next 158 = .ok (.invokevirtual 154, 3) := by decide +kernel
theorem dX12_next_161 : decode cX12_next 161 = .ok (.invokestatic 167, 3) := by decide +kernel
theorem dX12_next_164 : decode cX12_next 164 = .ok (.ifCond .ne 13, 3) := by decide +kernel
theorem dX12_next_167 : decode cX12_next 167 = .ok (.aload_n 0, 1) := by decide +kernel
theorem dX12_next_168 : decode cX12_next 168 = .ok (.invokevirtual 154, 3) := by decide +kernel
theorem dX12_next_171 : decode cX12_next 171 = .ok (.invokestatic 171, 3) := by decide +kernel
theorem dX12_next_174 : decode cX12_next 174 = .ok (.ifCond .eq 101, 3) := by decide +kernel
theorem dX12_next_177 : decode cX12_next 177 = .ok (.iload_n 3, 1) := by decide +kernel
theorem dX12_next_178 : decode cX12_next 178 = .ok (.ifCond .eq 18, 3) := by decide +kernel
theorem dX12_next_181 : decode cX12_next 181 = .ok (.aload_n 0, 1) := by decide +kernel
theorem dX12_next_182 : decode cX12_next 182 = .ok (.invokevirtual 154, 3) := by decide +kernel
theorem dX12_next_185 : decode cX12_next 185 = .ok (.invokestatic 167, 3) := by decide +kernel
theorem dX12_next_188 : decode cX12_next 188 = .ok (.iload_n 2, 1) := by decide +kernel
theorem dX12_next_189 : decode cX12_next 189 = .ok (.if_icmp .ne 7, 3) := by decide +kernel
theorem dX12_next_192 : decode cX12_next 192 = .ok (.iconst 1, 1) := by decide +kernel
theorem dX12_next_193 : decode cX12_next 193 = .ok (.goto 4, 3) := by decide +kernel
theorem dX12_next_196 : decode cX12_next 196 = .ok (.iconst 0, 1) := by decide +kernel
theorem dX12_next_197 : decode cX12_next 197 = .ok (.istore_n 3, 1) := by decide +kernel
theorem dX12_next_198 : decode cX12_next 198 = .ok (.aload_n 0, 1) := by decide +kernel
theorem dX12_next_199 : decode cX12_next 199 = .ok (.getfield 161, 3) := by decide +kernel
theorem dX12_next_202 : decode cX12_next 202 = .ok (.bipush 6, 2) := by decide +kernel
theorem dX12_next_204 : decode cX12_next 204 = .ok (.if_icmp .ge 20, 3) := by decide +kernel
theorem dX12_next_207 : decode cX12_next 207 = .ok (.aload_n 0, 1) := by decide +kernel
theorem dX12_next_208 : decode cX12_next 208 = .ok (.aload_n 0, 1) := by decide +kernel
theorem dX12_next_209 : decode cX12_next 209 = .ok (.getfield 177, 3) := by decide +kernel
theorem dX12_next_212 : decode cX12_next 212 = .ok (.bipush 8, 2) := by decide +kernel
theorem dX12_next_214 : decode cX12_next 214 = .ok (.lshl, 1) := by decide +kernel
theorem dX12_next_215 : decode cX12_next 215 = .ok (.aload_n 0, 1) := by decide +kernel
theorem dX12_next_216 : decode cX12_next 216 = .ok (.invokevirtual 154, 3) := by decide +kernel
theorem dX12_next_219 : decode cX12_next 219 = .ok (.i2l, 1) := by decide +kernel
theorem dX12_next_220 : decode cX12_next 220 = .ok (.lor, 1) := by decide +kernel
theorem dX12_next_221 : decode cX12_next 221 = .ok (.putfield 177, 3) := by decide +kernel
theorem dX12_next_224 : decode cX12_next 224 = .ok (.aload_n 0, 1) := by decide +kernel
theorem dX12_next_225 : decode cX12_next 225 = .ok (.getfield 161, 3) := by decide +kernel
theorem dX12_next_228 : decode cX12_next 228 = .ok (.bipush 8, 2) := by decide +kernel
theorem dX12_next_230 : decode cX12_next 230 = .ok (.if_icmp .ge 22, 3) := by decide +kernel
theorem dX12_next_233 : decode cX12_next 233 = .ok (.aload_n 0, 1) := by decide +kernel
theorem dX12_next_234 : decode cX12_next 234 = .ok (.bipush 10, 2) := by decide +kernel
theorem dX12_next_236 : decode cX12_next 236 = .ok (.aload_n 0, 1) := by decide +kernel
theorem dX12_next_237 : decode cX12_next 237 = .ok (.getfield 174, 3) := by decide +kernel
theorem dX12_next_240 : decode cX12_next 240 = .ok (.imul, 1) := by decide +kernel
theorem dX12_next_241 : decode cX12_next 241 = .ok (.aload_n 0, 1) := by decide +kernel
theorem dX12_next_242 : decode cX12_next 242 = .ok (.invokevirtual 154, 3) := by decide +kernel
theorem dX12_next_245 : decode cX12_next 245 = .ok (.iadd, 1) := by decide +kernel
theorem dX12_next_246 : decode cX12_next 246 = .ok (.bipush 48, 2) := by decide +kernel
theorem dX12_next_248 : decode cX12_next 248 = .ok (.isub, 1) := by decide +kernel
theorem dX12_next_249 : decode cX12_next 249 = .ok (.putfield 174, 3) := by decide +kernel
theorem dX12_next_252 : decode cX12_next 252 = .ok (.aload_n 0, 1) := by decide +kernel
theorem dX12_next_253 : decode cX12_next 253 = .ok (.dup, 1) := by decide +kernel
theorem dX12_next_254 : decode cX12_next 254 = .ok (.getfield 161, 3) := by decide +kernel
theorem dX12_next_257 : decode cX12_next 257 = .ok (.iconst 1, 1) := by decide +kernel
theorem dX12_next_258 : decode cX12_next 258 = .ok (.iadd, 1) := by decide +kernel
theorem dX12_next_259 : decode cX12_next 259 = .ok (.putfield 161, 3) := by decide +kernel
theorem dX12_next_262 : decode cX12_next 262 = .ok (.aload_n 0, 1) := by decide +kernel
theorem dX12_next_263 : decode cX12_next 263 = .ok (.dup, 1) := by decide +kernel
theorem dX12_next_264 : decode cX12_next 264 = .ok (.getfield 21, 3) := by decide +kernel
theorem dX12_next_267 : decode cX12_next 267 = .ok (.iconst 1, 1) := by decide +kernel
theorem dX12_next_268 : decode cX12_next 268 = .ok (.iadd, 1) := by decide +kernel
theorem dX12_next_269 : decode cX12_next 269 = .ok (.putfield 21, 3) := by decide +kernel
theorem dX12_next_272 : decode cX12_next 272 = .ok (.goto (-115), 3) := by decide +kernel
theorem dX12_next_275 : decode cX12_next 275 = .ok (.aload_n 0, 1) := by decide +kernel
theorem dX12_next_276 : decode cX12_next 276 = .ok (.iload_n 3, 1) := by decide +kernel
theorem dX12_next_277 : decode cX12_next 277 = .ok (.ifCond .eq 21, 3) := by decide +kernel
theorem dX12_next_280 : decode cX12_next 280 = .ok (.aload_n 0, 1) := by decide +kernel
theorem dX12_next_281 : decode cX12_next 281 = .ok (.getfield 161, 3) := by decide +kernel
theorem dX12_next_284 : decode cX12_next 284 = .ok (.iload_n 2, 1) := by decide +kernel
theorem dX12_next_285 : decode cX12_next 285 = .ok (.ifCond .eq 8, 3) := by decide +kernel
theorem dX12_next_288 : decode cX12_next 288 = .ok (.bipush 6, 2) := by decide +kernel
theorem dX12_next_290 : decode cX12_next 290 = .ok (.goto 5, 3) := by decide +kernel
theorem dX12_next_293 : decode cX12_next 293 = .ok (.bipush 8, 2) := by decide +kernel
theorem dX12_next_295 : decode cX12_next 295 = .ok (.if_icmp .le 7, 3) := by decide +kernel
theorem dX12_next_298 : decode cX12_next 298 = .ok (.iconst 4, 1) := by decide +kernel
theorem dX12_next_299 : decode cX12_next 299 = .ok (.goto 12, 3) := by decide +kernel
theorem dX12_next_302 : decode cX12_next 302 = .ok (.iload_n 2, 1) := by decide +kernel
theorem dX12_next_303 : decode cX12_next 303 = .ok (.ifCond .eq 7, 3) := by decide +kernel
theorem dX12_next_306 : decode cX12_next 306 = .ok (.iconst 1, 1) := by decide +kernel
theorem dX12_next_307 : decode cX12_next 307 = .ok (.goto 4, 3) := by decide +kernel
theorem dX12_next_310 : decode cX12_next 310 = .ok (.iconst 2, 1) := by decide +kernel
theorem dX12_next_311 : decode cX12_next 311 = .ok (.putfield 164, 3) := by decide +kernel
theorem dX12_next_314 : decode cX12_next 314 = .ok (.return_, 1) := by decide +kernel
def wb_X12_next_311  (h : AH)  (xs0 : Int32) (as1 : Nat) (post : AH → Prop) : Prop := (ob h as1 11) ∧ (∀ hv1 : AH, hv1 = hI h as1 11 xs0 → (post hv1))
set_option maxRecDepth 100000 in
theorem tb_X12_next_311 {G : GG} {p : Program} {l : Launch} {e : Env} {R : Room} {s : State} {m : MethodId} {args : Array Value} {below : List Frame} {meth : Method} {c : Code} {n0 s0 : Nat} {post : AH → Prop} (C : Cx G p R s m args meth c 4 cX12_next RX12 n0 s0 1 20) (hr : meth.sig.returnType = none)   {h : AH}  {xs0 : Int32} {as1 : Nat} (hw : wb_X12_next_311  h xs0 as1 post) : AW G p l e R s m args below meth c 4 (QM G (pV post) args s below n0 s0) 311 [] [.int xs0, .ref (G.1 + as1)] h := by
  unfold wb_X12_next_311 at hw
  refine r_putI C fp_RX12_164_11 hw.1 rfl dX12_next_311 ?_
  replace hw := hw.2
  refine r_toph fun hv1 ehv1 => ?_
  replace hw := hw hv1 ehv1
  exact r_vret C hr dX12_next_314 hw
def wb_X12_next_298  (h : AH)  (as0 : Nat) (post : AH → Prop) : Prop := wb_X12_next_311  h 4 as0 post
set_option maxRecDepth 100000 in
theorem tb_X12_next_298 {G : GG} {p : Program} {l : Launch} {e : Env} {R : Room} {s : State} {m : MethodId} {args : Array Value} {below : List Frame} {meth : Method} {c : Code} {n0 s0 : Nat} {post : AH → Prop} (C : Cx G p R s m args meth c 4 cX12_next RX12 n0 s0 1 20) (hr : meth.sig.returnType = none)   {h : AH}  {as0 : Nat} (hw : wb_X12_next_298  h as0 post) : AW G p l e R s m args below meth c 4 (QM G (pV post) args s below n0 s0) 298 [] [.ref (G.1 + as0)] h := by
  unfold wb_X12_next_298 at hw
  refine r_iconst (v := 4) C dX12_next_298 (by decide) ?_
  refine r_goto C dX12_next_299 311 (by decide) ?_
  refine r_sub [] rfl ?_
  exact tb_X12_next_311 C hr  hw
def wb_X12_next_295  (h : AH) (xl2 : Int32) (xs0 : Int32) (xs1 : Int32) (as2 : Nat) (post : AH → Prop) : Prop := (xs1 ≤ xs0 → ((xl2 = 0 → (wb_X12_next_311  h 2 as2 post)) ∧ (¬ xl2 = 0 → (wb_X12_next_311  h 1 as2 post)))) ∧ (¬ xs1 ≤ xs0 → (wb_X12_next_298  h as2 post))
set_option maxRecDepth 100000 in
theorem tb_X12_next_295 {G : GG} {p : Program} {l : Launch} {e : Env} {R : Room} {s : State} {m : MethodId} {args : Array Value} {below : List Frame} {meth : Method} {c : Code} {n0 s0 : Nat} {post : AH → Prop} (C : Cx G p R s m args meth c 4 cX12_next RX12 n0 s0 1 20) (hr : meth.sig.returnType = none)   {h : AH} {xl2 : Int32} {xs0 : Int32} {xs1 : Int32} {as2 : Nat} (hw : wb_X12_next_295  h xl2 xs0 xs1 as2 post) : AW G p l e R s m args below meth c 4 (QM G (pV post) args s below n0 s0) 295 [(2, .int xl2)] [.int xs0, .int xs1, .ref (G.1 + as2)] h := by
  unfold wb_X12_next_295 at hw
  refine r_icmp_le C dX12_next_295 302 (by decide) (fun hc => ?_) (fun hc => ?_)
  · replace hw := hw.1 hc
    refine r_iload_n C dX12_next_302 0 rfl ?_
    refine r_if_eq C dX12_next_303 310 (by decide) (fun hc => ?_) (fun hc => ?_)
    · replace hw := hw.1 hc
      refine r_iconst (v := 2) C dX12_next_310 (by decide) ?_
      refine r_sub [] rfl ?_
      exact tb_X12_next_311 C hr  hw
    · replace hw := hw.2 hc
      refine r_iconst (v := 1) C dX12_next_306 (by decide) ?_
      refine r_goto C dX12_next_307 311 (by decide) ?_
      refine r_sub [] rfl ?_
      exact tb_X12_next_311 C hr  hw
  · replace hw := hw.2 hc
    refine r_sub [] rfl ?_
    exact tb_X12_next_298 C hr  hw
def wb_X12_next_252 (K157 : AH → Nat → Int32 → Int32 → Prop) (h : AH) (al0 : Nat) (xl2 : Int32) (xl3 : Int32)  (post : AH → Prop) : Prop := (ob h al0 11) ∧ ((ob h al0 11) ∧ (∀ hv1 : AH, hv1 = hI h al0 13 ((aI h al0 13) + (1 : Int32)) → ((ob hv1 al0 11) ∧ ((ob hv1 al0 11) ∧ (∀ hv2 : AH, hv2 = hI hv1 al0 4 ((aI hv1 al0 4) + (1 : Int32)) → (K157 hv2 al0 xl2 xl3))))))
set_option maxRecDepth 100000 in
theorem tb_X12_next_252 {G : GG} {p : Program} {l : Launch} {e : Env} {R : Room} {s : State} {m : MethodId} {args : Array Value} {below : List Frame} {meth : Method} {c : Code} {n0 s0 : Nat} {post : AH → Prop} (C : Cx G p R s m args meth c 4 cX12_next RX12 n0 s0 1 20) (hr : meth.sig.returnType = none) {K157 : AH → Nat → Int32 → Int32 → Prop} (hK157 : ∀ (h : AH) (al0 : Nat) (xl2 : Int32) (xl3 : Int32), K157 h al0 xl2 xl3 → AW G p l e R s m args below meth c 4 (QM G (pV post) args s below n0 s0) 157 [(0, .ref (G.1 + al0)), (2, .int xl2), (3, .int xl3)] [] h) {h : AH} {al0 : Nat} {xl2 : Int32} {xl3 : Int32}  (hw : wb_X12_next_252 K157 h al0 xl2 xl3 post) : AW G p l e R s m args below meth c 4 (QM G (pV post) args s below n0 s0) 252 [(0, .ref (G.1 + al0)), (2, .int xl2), (3, .int xl3)] [] h := by
  unfold wb_X12_next_252 at hw
  refine r_aload_n C dX12_next_252 0 rfl ?_
  refine r_dup C dX12_next_253 rfl ?_
  refine r_getI C fl_RX12_161_11 hw.1 (fun _ _ _ => rfl) dX12_next_254 ?_
  replace hw := hw.2
  refine r_iconst (v := 1) C dX12_next_257 (by decide) ?_
  refine r_iadd C dX12_next_258 ?_
  refine r_putI C fp_RX12_161_11 hw.1 rfl dX12_next_259 ?_
  replace hw := hw.2
  refine r_toph fun hv1 ehv1 => ?_
  replace hw := hw hv1 ehv1
  refine r_aload_n C dX12_next_262 0 rfl ?_
  refine r_dup C dX12_next_263 rfl ?_
  refine r_getI C fl_RX12_21_11 hw.1 (fun _ _ _ => rfl) dX12_next_264 ?_
  replace hw := hw.2
  refine r_iconst (v := 1) C dX12_next_267 (by decide) ?_
  refine r_iadd C dX12_next_268 ?_
  refine r_putI C fp_RX12_21_11 hw.1 rfl dX12_next_269 ?_
  replace hw := hw.2
  refine r_toph fun hv2 ehv2 => ?_
  replace hw := hw hv2 ehv2
  refine r_goto C dX12_next_272 157 (by decide) ?_
  refine r_sub [0, 1, 2] rfl ?_
  exact hK157 _ _ _ _ hw
def wb_X12_next_224 (K157 : AH → Nat → Int32 → Int32 → Prop) (h : AH) (al0 : Nat) (xl2 : Int32) (xl3 : Int32)  (post : AH → Prop) : Prop := (ob h al0 11) ∧ ((8 ≤ (aI h al0 13) → (wb_X12_next_252 K157 h al0 xl2 xl3 post)) ∧ (¬ 8 ≤ (aI h al0 13) → ((ob h al0 11) ∧ ((ob h al0 11) ∧ wp_X12_peek h al0  (fun hv1 iv2 => (ob hv1 al0 11) ∧ (∀ hv3 : AH, hv3 = hI hv1 al0 14 ((((10 : Int32) * (aI h al0 14)) + iv2) - (48 : Int32)) → (wb_X12_next_252 K157 hv3 al0 xl2 xl3 post)))))))
set_option maxRecDepth 100000 in
theorem tb_X12_next_224 {G : GG} {p : Program} {l : Launch} {e : Env} {R : Room} {s : State} {m : MethodId} {args : Array Value} {below : List Frame} {meth : Method} {c : Code} {n0 s0 : Nat} {post : AH → Prop} (C : Cx G p R s m args meth c 4 cX12_next RX12 n0 s0 1 20) (hr : meth.sig.returnType = none) {K157 : AH → Nat → Int32 → Int32 → Prop} (hK157 : ∀ (h : AH) (al0 : Nat) (xl2 : Int32) (xl3 : Int32), K157 h al0 xl2 xl3 → AW G p l e R s m args below meth c 4 (QM G (pV post) args s below n0 s0) 157 [(0, .ref (G.1 + al0)), (2, .int xl2), (3, .int xl3)] [] h) {h : AH} {al0 : Nat} {xl2 : Int32} {xl3 : Int32}  (hw : wb_X12_next_224 K157 h al0 xl2 xl3 post) : AW G p l e R s m args below meth c 4 (QM G (pV post) args s below n0 s0) 224 [(0, .ref (G.1 + al0)), (2, .int xl2), (3, .int xl3)] [] h := by
  unfold wb_X12_next_224 at hw
  refine r_aload_n C dX12_next_224 0 rfl ?_
  refine r_getI C fl_RX12_161_11 hw.1 (fun _ _ _ => rfl) dX12_next_225 ?_
  replace hw := hw.2
  refine r_bipush (v := 8) C dX12_next_228 (by decide) ?_
  refine r_icmp_ge C dX12_next_230 252 (by decide) (fun hc => ?_) (fun hc => ?_)
  · replace hw := hw.1 hc
    refine r_sub [0, 1, 2] rfl ?_
    exact tb_X12_next_252 C hr hK157 hw
  · replace hw := hw.2 hc
    refine r_aload_n C dX12_next_233 0 rfl ?_
    refine r_bipush (v := 10) C dX12_next_234 (by decide) ?_
    refine r_aload_n C dX12_next_236 0 rfl ?_
    refine r_getI C fl_RX12_174_11 hw.1 (fun _ _ _ => rfl) dX12_next_237 ?_
    replace hw := hw.2
    refine r_imul C dX12_next_240 ?_
    refine r_aload_n C dX12_next_241 0 rfl ?_
    have hob := hw.1
    replace hw := hw.2
    refine r_callV C (As := []) (rest := [.int ((10 : Int32) * (aI h al0 14)), .ref (G.1 + al0)]) (c_X12_peek G h al0  _ hw) yl_X12_peek (gm7 (List.mem_of_getElem? (i := 155) rfl) rfl) (gm7 (List.mem_of_getElem? (i := 157) rfl) rfl) (ci := 11) rfl (by decide) (gsel (List.mem_of_getElem? (i := 42) rfl)) hob (by decide) rfl (Nat.le_of_ble_eq_true rfl) dX12_next_242 rfl (kI fun hv1 iv2 hw => ?_)
    refine r_iadd C dX12_next_245 ?_
    refine r_bipush (v := 48) C dX12_next_246 (by decide) ?_
    refine r_isub C dX12_next_248 ?_
    refine r_putI C fp_RX12_174_11 hw.1 rfl dX12_next_249 ?_
    replace hw := hw.2
    refine r_toph fun hv3 ehv3 => ?_
    replace hw := hw hv3 ehv3
    refine r_sub [0, 1, 2] rfl ?_
    exact tb_X12_next_252 C hr hK157 hw
def wb_X12_next_197 (K157 : AH → Nat → Int32 → Int32 → Prop) (h : AH) (al0 : Nat) (xl2 : Int32) (xs0 : Int32) (post : AH → Prop) : Prop := (ob h al0 11) ∧ ((6 ≤ (aI h al0 13) → (wb_X12_next_224 K157 h al0 xl2 xs0 post)) ∧ (¬ 6 ≤ (aI h al0 13) → ((ob h al0 11) ∧ ((ob h al0 11) ∧ wp_X12_peek h al0  (fun hv1 iv2 => (ob hv1 al0 11) ∧ (∀ hv3 : AH, hv3 = hJ hv1 al0 17 (((aJ h al0 17) <<< ((8 : Int32).toInt64 &&& 63)) ||| iv2.toInt64) → (wb_X12_next_224 K157 hv3 al0 xl2 xs0 post)))))))
set_option maxRecDepth 100000 in
theorem tb_X12_next_197 {G : GG} {p : Program} {l : Launch} {e : Env} {R : Room} {s : State} {m : MethodId} {args : Array Value} {below : List Frame} {meth : Method} {c : Code} {n0 s0 : Nat} {post : AH → Prop} (C : Cx G p R s m args meth c 4 cX12_next RX12 n0 s0 1 20) (hr : meth.sig.returnType = none) {K157 : AH → Nat → Int32 → Int32 → Prop} (hK157 : ∀ (h : AH) (al0 : Nat) (xl2 : Int32) (xl3 : Int32), K157 h al0 xl2 xl3 → AW G p l e R s m args below meth c 4 (QM G (pV post) args s below n0 s0) 157 [(0, .ref (G.1 + al0)), (2, .int xl2), (3, .int xl3)] [] h) {h : AH} {al0 : Nat} {xl2 : Int32} {xs0 : Int32} (hw : wb_X12_next_197 K157 h al0 xl2 xs0 post) : AW G p l e R s m args below meth c 4 (QM G (pV post) args s below n0 s0) 197 [(0, .ref (G.1 + al0)), (2, .int xl2)] [.int xs0] h := by
  unfold wb_X12_next_197 at hw
  refine r_istore_n C dX12_next_197 [(3, .int xs0), (0, .ref (G.1 + al0)), (2, .int xl2)] (by decide) rfl ?_
  refine r_aload_n C dX12_next_198 1 rfl ?_
  refine r_getI C fl_RX12_161_11 hw.1 (fun _ _ _ => rfl) dX12_next_199 ?_
  replace hw := hw.2
  refine r_bipush (v := 6) C dX12_next_202 (by decide) ?_
  refine r_icmp_ge C dX12_next_204 224 (by decide) (fun hc => ?_) (fun hc => ?_)
  · replace hw := hw.1 hc
    refine r_sub [1, 2, 0] rfl ?_
    exact tb_X12_next_224 C hr hK157 hw
  · replace hw := hw.2 hc
    refine r_aload_n C dX12_next_207 1 rfl ?_
    refine r_aload_n C dX12_next_208 1 rfl ?_
    refine r_getJ C fl_RX12_177_11 hw.1 (fun _ _ _ => rfl) dX12_next_209 ?_
    replace hw := hw.2
    refine r_bipush (v := 8) C dX12_next_212 (by decide) ?_
    refine r_lshl C dX12_next_214 ?_
    refine r_aload_n C dX12_next_215 1 rfl ?_
    have hob := hw.1
    replace hw := hw.2
    refine r_callV C (As := []) (rest := [.long ((aJ h al0 17) <<< ((8 : Int32).toInt64 &&& 63)), .ref (G.1 + al0)]) (c_X12_peek G h al0  _ hw) yl_X12_peek (gm7 (List.mem_of_getElem? (i := 155) rfl) rfl) (gm7 (List.mem_of_getElem? (i := 157) rfl) rfl) (ci := 11) rfl (by decide) (gsel (List.mem_of_getElem? (i := 42) rfl)) hob (by decide) rfl (Nat.le_of_ble_eq_true rfl) dX12_next_216 rfl (kI fun hv1 iv2 hw => ?_)
    refine r_i2l C dX12_next_219 ?_
    refine r_lor C dX12_next_220 ?_
    refine r_putJ C fp_RX12_177_11 hw.1 rfl dX12_next_221 ?_
    replace hw := hw.2
    refine r_toph fun hv3 ehv3 => ?_
    replace hw := hw hv3 ehv3
    refine r_sub [1, 2, 0] rfl ?_
    exact tb_X12_next_224 C hr hK157 hw
def wb_X12_next_196 (K157 : AH → Nat → Int32 → Int32 → Prop) (h : AH) (al0 : Nat) (xl2 : Int32)  (post : AH → Prop) : Prop := wb_X12_next_197 K157 h al0 xl2 0 post
set_option maxRecDepth 100000 in
theorem tb_X12_next_196 {G : GG} {p : Program} {l : Launch} {e : Env} {R : Room} {s : State} {m : MethodId} {args : Array Value} {below : List Frame} {meth : Method} {c : Code} {n0 s0 : Nat} {post : AH → Prop} (C : Cx G p R s m args meth c 4 cX12_next RX12 n0 s0 1 20) (hr : meth.sig.returnType = none) {K157 : AH → Nat → Int32 → Int32 → Prop} (hK157 : ∀ (h : AH) (al0 : Nat) (xl2 : Int32) (xl3 : Int32), K157 h al0 xl2 xl3 → AW G p l e R s m args below meth c 4 (QM G (pV post) args s below n0 s0) 157 [(0, .ref (G.1 + al0)), (2, .int xl2), (3, .int xl3)] [] h) {h : AH} {al0 : Nat} {xl2 : Int32}  (hw : wb_X12_next_196 K157 h al0 xl2 post) : AW G p l e R s m args below meth c 4 (QM G (pV post) args s below n0 s0) 196 [(0, .ref (G.1 + al0)), (2, .int xl2)] [] h := by
  unfold wb_X12_next_196 at hw
  refine r_iconst (v := 0) C dX12_next_196 (by decide) ?_
  refine r_sub [0, 1] rfl ?_
  exact tb_X12_next_197 C hr hK157 hw
def wb_X12_next_177 (K157 : AH → Nat → Int32 → Int32 → Prop) (h : AH) (al0 : Nat) (xl2 : Int32) (xl3 : Int32)  (post : AH → Prop) : Prop := (xl3 = 0 → (wb_X12_next_196 K157 h al0 xl2 post)) ∧ (¬ xl3 = 0 → ((ob h al0 11) ∧ wp_X12_peek h al0  (fun hv1 iv2 => wp_X12_isSmall hv1 iv2 (fun hv3 iv4 => (¬ iv4 = xl2 → (wb_X12_next_196 K157 hv3 al0 xl2 post)) ∧ (iv4 = xl2 → (wb_X12_next_197 K157 hv3 al0 xl2 1 post))))))
set_option maxRecDepth 100000 in
theorem tb_X12_next_177 {G : GG} {p : Program} {l : Launch} {e : Env} {R : Room} {s : State} {m : MethodId} {args : Array Value} {below : List Frame} {meth : Method} {c : Code} {n0 s0 : Nat} {post : AH → Prop} (C : Cx G p R s m args meth c 4 cX12_next RX12 n0 s0 1 20) (hr : meth.sig.returnType = none) {K157 : AH → Nat → Int32 → Int32 → Prop} (hK157 : ∀ (h : AH) (al0 : Nat) (xl2 : Int32) (xl3 : Int32), K157 h al0 xl2 xl3 → AW G p l e R s m args below meth c 4 (QM G (pV post) args s below n0 s0) 157 [(0, .ref (G.1 + al0)), (2, .int xl2), (3, .int xl3)] [] h) {h : AH} {al0 : Nat} {xl2 : Int32} {xl3 : Int32}  (hw : wb_X12_next_177 K157 h al0 xl2 xl3 post) : AW G p l e R s m args below meth c 4 (QM G (pV post) args s below n0 s0) 177 [(0, .ref (G.1 + al0)), (2, .int xl2), (3, .int xl3)] [] h := by
  unfold wb_X12_next_177 at hw
  refine r_iload_n C dX12_next_177 2 rfl ?_
  refine r_if_eq C dX12_next_178 196 (by decide) (fun hc => ?_) (fun hc => ?_)
  · replace hw := hw.1 hc
    refine r_sub [0, 1] rfl ?_
    exact tb_X12_next_196 C hr hK157 hw
  · replace hw := hw.2 hc
    refine r_aload_n C dX12_next_181 0 rfl ?_
    have hob := hw.1
    replace hw := hw.2
    refine r_callV C (As := []) (rest := []) (c_X12_peek G h al0  _ hw) yl_X12_peek (gm7 (List.mem_of_getElem? (i := 155) rfl) rfl) (gm7 (List.mem_of_getElem? (i := 157) rfl) rfl) (ci := 11) rfl (by decide) (gsel (List.mem_of_getElem? (i := 42) rfl)) hob (by decide) rfl (Nat.le_of_ble_eq_true rfl) dX12_next_182 rfl (kI fun hv1 iv2 hw => ?_)
    refine r_callS C (As := [.int iv2]) (rest := []) (c_X12_isSmall G hv1 iv2 _ hw) yl_X12_isSmall (gm7 (List.mem_of_getElem? (i := 159) rfl) rfl) (gm7 (List.mem_of_getElem? (i := 160) rfl) rfl) (by decide) rfl (Nat.le_of_ble_eq_true rfl) dX12_next_185 rfl (kI fun hv3 iv4 hw => ?_)
    refine r_iload_n C dX12_next_188 1 rfl ?_
    refine r_icmp_ne C dX12_next_189 196 (by decide) (fun hc => ?_) (fun hc => ?_)
    · replace hw := hw.1 hc
      refine r_sub [0, 1] rfl ?_
      exact tb_X12_next_196 C hr hK157 hw
    · replace hw := hw.2 hc
      refine r_iconst (v := 1) C dX12_next_192 (by decide) ?_
      refine r_goto C dX12_next_193 197 (by decide) ?_
      refine r_sub [0, 1] rfl ?_
      exact tb_X12_next_197 C hr hK157 hw
def wb_X12_next_157 (K157 : AH → Nat → Int32 → Int32 → Prop) (h : AH) (al0 : Nat) (xl2 : Int32) (xl3 : Int32)  (post : AH → Prop) : Prop := (ob h al0 11) ∧ wp_X12_peek h al0  (fun hv1 iv2 => wp_X12_isSmall hv1 iv2 (fun hv3 iv4 => (¬ iv4 = 0 → (wb_X12_next_177 K157 hv3 al0 xl2 xl3 post)) ∧ (iv4 = 0 → ((ob hv3 al0 11) ∧ wp_X12_peek hv3 al0  (fun hv5 iv6 => wp_X12_isDigit hv5 iv6 (fun hv7 iv8 => (iv8 = 0 → ((xl3 = 0 → (wb_X12_next_298  hv7 al0 post)) ∧ (¬ xl3 = 0 → ((ob hv7 al0 11) ∧ ((xl2 = 0 → (wb_X12_next_295  hv7 xl2 8 (aI hv7 al0 13) al0 post)) ∧ (¬ xl2 = 0 → (wb_X12_next_295  hv7 xl2 6 (aI hv7 al0 13) al0 post))))))) ∧ (¬ iv8 = 0 → (wb_X12_next_177 K157 hv7 al0 xl2 xl3 post))))))))
set_option maxRecDepth 100000 in
theorem tb_X12_next_157 {G : GG} {p : Program} {l : Launch} {e : Env} {R : Room} {s : State} {m : MethodId} {args : Array Value} {below : List Frame} {meth : Method} {c : Code} {n0 s0 : Nat} {post : AH → Prop} (C : Cx G p R s m args meth c 4 cX12_next RX12 n0 s0 1 20) (hr : meth.sig.returnType = none) {K157 : AH → Nat → Int32 → Int32 → Prop} (hK157 : ∀ (h : AH) (al0 : Nat) (xl2 : Int32) (xl3 : Int32), K157 h al0 xl2 xl3 → AW G p l e R s m args below meth c 4 (QM G (pV post) args s below n0 s0) 157 [(0, .ref (G.1 + al0)), (2, .int xl2), (3, .int xl3)] [] h) {h : AH} {al0 : Nat} {xl2 : Int32} {xl3 : Int32}  (hw : wb_X12_next_157 K157 h al0 xl2 xl3 post) : AW G p l e R s m args below meth c 4 (QM G (pV post) args s below n0 s0) 157 [(0, .ref (G.1 + al0)), (2, .int xl2), (3, .int xl3)] [] h := by
  unfold wb_X12_next_157 at hw
  refine r_aload_n C dX12_next_157 0 rfl ?_
  have hob := hw.1
  replace hw := hw.2
  refine r_callV C (As := []) (rest := []) (c_X12_peek G h al0  _ hw) yl_X12_peek (gm7 (List.mem_of_getElem? (i := 155) rfl) rfl) (gm7 (List.mem_of_getElem? (i := 157) rfl) rfl) (ci := 11) rfl (by decide) (gsel (List.mem_of_getElem? (i := 42) rfl)) hob (by decide) rfl (Nat.le_of_ble_eq_true rfl) dX12_next_158 rfl (kI fun hv1 iv2 hw => ?_)
  refine r_callS C (As := [.int iv2]) (rest := []) (c_X12_isSmall G hv1 iv2 _ hw) yl_X12_isSmall (gm7 (List.mem_of_getElem? (i := 159) rfl) rfl) (gm7 (List.mem_of_getElem? (i := 160) rfl) rfl) (by decide) rfl (Nat.le_of_ble_eq_true rfl) dX12_next_161 rfl (kI fun hv3 iv4 hw => ?_)
  refine r_if_ne C dX12_next_164 177 (by decide) (fun hc => ?_) (fun hc => ?_)
  · replace hw := hw.1 hc
    refine r_sub [0, 1, 2] rfl ?_
    exact tb_X12_next_177 C hr hK157 hw
  · replace hw := hw.2 hc
    refine r_aload_n C dX12_next_167 0 rfl ?_
    have hob := hw.1
    replace hw := hw.2
    refine r_callV C (As := []) (rest := []) (c_X12_peek G hv3 al0  _ hw) yl_X12_peek (gm7 (List.mem_of_getElem? (i := 155) rfl) rfl) (gm7 (List.mem_of_getElem? (i := 157) rfl) rfl) (ci := 11) rfl (by decide) (gsel (List.mem_of_getElem? (i := 42) rfl)) hob (by decide) rfl (Nat.le_of_ble_eq_true rfl) dX12_next_168 rfl (kI fun hv5 iv6 hw => ?_)
    refine r_callS C (As := [.int iv6]) (rest := []) (c_X12_isDigit G hv5 iv6 _ hw) yl_X12_isDigit (gm7 (List.mem_of_getElem? (i := 162) rfl) rfl) (gm7 (List.mem_of_getElem? (i := 163) rfl) rfl) (by decide) rfl (Nat.le_of_ble_eq_true rfl) dX12_next_171 rfl (kI fun hv7 iv8 hw => ?_)
    refine r_if_eq C dX12_next_174 275 (by decide) (fun hc => ?_) (fun hc => ?_)
    · replace hw := hw.1 hc
      refine r_aload_n C dX12_next_275 0 rfl ?_
      refine r_iload_n C dX12_next_276 2 rfl ?_
      refine r_if_eq C dX12_next_277 298 (by decide) (fun hc => ?_) (fun hc => ?_)
      · replace hw := hw.1 hc
        refine r_sub [] rfl ?_
        exact tb_X12_next_298 C hr  hw
      · replace hw := hw.2 hc
        refine r_aload_n C dX12_next_280 0 rfl ?_
        refine r_getI C fl_RX12_161_11 hw.1 (fun _ _ _ => rfl) dX12_next_281 ?_
        replace hw := hw.2
        refine r_iload_n C dX12_next_284 1 rfl ?_
        refine r_if_eq C dX12_next_285 293 (by decide) (fun hc => ?_) (fun hc => ?_)
        · replace hw := hw.1 hc
          refine r_bipush (v := 8) C dX12_next_293 (by decide) ?_
          refine r_sub [1] rfl ?_
          exact tb_X12_next_295 C hr  hw
        · replace hw := hw.2 hc
          refine r_bipush (v := 6) C dX12_next_288 (by decide) ?_
          refine r_goto C dX12_next_290 295 (by decide) ?_
          refine r_sub [1] rfl ?_
          exact tb_X12_next_295 C hr  hw
    · replace hw := hw.2 hc
      refine r_sub [0, 1, 2] rfl ?_
      exact tb_X12_next_177 C hr hK157 hw
def wl_X12_next_157  (post : AH → Prop) : Nat → AH → Nat → Int32 → Int32 → Prop
  | 0 => fun _ _ _ _ => False
  | n + 1 => fun h al0 xl2 xl3 => wb_X12_next_157  (wl_X12_next_157  post n) h al0 xl2 xl3 post
theorem tl_X12_next_157 {G : GG} {p : Program} {l : Launch} {e : Env} {R : Room} {s : State} {m : MethodId} {args : Array Value} {below : List Frame} {meth : Method} {c : Code} {n0 s0 : Nat} {post : AH → Prop} (C : Cx G p R s m args meth c 4 cX12_next RX12 n0 s0 1 20) (hr : meth.sig.returnType = none)   : ∀ (n : Nat) (h : AH) (al0 : Nat) (xl2 : Int32) (xl3 : Int32), wl_X12_next_157  post n h al0 xl2 xl3 → AW G p l e R s m args below meth c 4 (QM G (pV post) args s below n0 s0) 157 [(0, .ref (G.1 + al0)), (2, .int xl2), (3, .int xl3)] [] h := by
  intro n
  induction n with
  | zero => intro h al0 xl2 xl3 hw; exact hw.elim
  | succ n ih => intro h al0 xl2 xl3 hw; exact tb_X12_next_157 C hr  ih hw
def wb_X12_next_140  (h : AH) (al0 : Nat) (xl1 : Int32)  (post : AH → Prop) : Prop := wp_X12_isSmall h xl1 (fun hv1 iv2 => (ob hv1 al0 11) ∧ (∀ hv3 : AH, hv3 = hJ hv1 al0 17 0 → ((ob hv3 al0 11) ∧ (∀ hv4 : AH, hv4 = hI hv3 al0 14 0 → (∃ n, wl_X12_next_157  post n hv4 al0 iv2 1)))))
set_option maxRecDepth 100000 in
theorem tb_X12_next_140 {G : GG} {p : Program} {l : Launch} {e : Env} {R : Room} {s : State} {m : MethodId} {args : Array Value} {below : List Frame} {meth : Method} {c : Code} {n0 s0 : Nat} {post : AH → Prop} (C : Cx G p R s m args meth c 4 cX12_next RX12 n0 s0 1 20) (hr : meth.sig.returnType = none)   {h : AH} {al0 : Nat} {xl1 : Int32}  (hw : wb_X12_next_140  h al0 xl1 post) : AW G p l e R s m args below meth c 4 (QM G (pV post) args s below n0 s0) 140 [(0, .ref (G.1 + al0)), (1, .int xl1)] [] h := by
  unfold wb_X12_next_140 at hw
  refine r_iload_n C dX12_next_140 1 rfl ?_
  refine r_callS C (As := [.int xl1]) (rest := []) (c_X12_isSmall G h xl1 _ hw) yl_X12_isSmall (gm7 (List.mem_of_getElem? (i := 159) rfl) rfl) (gm7 (List.mem_of_getElem? (i := 160) rfl) rfl) (by decide) rfl (Nat.le_of_ble_eq_true rfl) dX12_next_141 rfl (kI fun hv1 iv2 hw => ?_)
  refine r_istore_n C dX12_next_144 [(2, .int iv2), (0, .ref (G.1 + al0)), (1, .int xl1)] (by decide) rfl ?_
  refine r_iconst (v := 1) C dX12_next_145 (by decide) ?_
  refine r_istore_n C dX12_next_146 [(3, .int 1), (2, .int iv2), (0, .ref (G.1 + al0)), (1, .int xl1)] (by decide) rfl ?_
  refine r_aload_n C dX12_next_147 2 rfl ?_
  refine r_lconst (v := 0) C dX12_next_148 (by decide) ?_
  refine r_putJ C fp_RX12_177_11 hw.1 rfl dX12_next_149 ?_
  replace hw := hw.2
  refine r_toph fun hv3 ehv3 => ?_
  replace hw := hw hv3 ehv3
  refine r_aload_n C dX12_next_152 2 rfl ?_
  refine r_iconst (v := 0) C dX12_next_153 (by decide) ?_
  refine r_putI C fp_RX12_174_11 hw.1 rfl dX12_next_154 ?_
  replace hw := hw.2
  refine r_toph fun hv4 ehv4 => ?_
  replace hw := hw hv4 ehv4
  refine r_sub [2, 1, 0] rfl ?_
  obtain ⟨n, hw⟩ := hw
  exact tl_X12_next_157 C hr  n _ _ _ _ hw
def wb_X12_next_121  (h : AH) (al0 : Nat) (xl1 : Int32) (xs0 : Int32) (as1 : Nat) (post : AH → Prop) : Prop := (ob h as1 11) ∧ (∀ hv1 : AH, hv1 = hI h as1 11 xs0 → ((ob hv1 al0 11) ∧ (∀ hv2 : AH, hv2 = hI hv1 al0 14 xl1 → ((ob hv2 al0 11) ∧ ((ob hv2 al0 11) ∧ (∀ hv3 : AH, hv3 = hI hv2 al0 4 ((aI hv2 al0 4) + (1 : Int32)) → (post hv3)))))))
set_option maxRecDepth 100000 in
theorem tb_X12_next_121 {G : GG} {p : Program} {l : Launch} {e : Env} {R : Room} {s : State} {m : MethodId} {args : Array Value} {below : List Frame} {meth : Method} {c : Code} {n0 s0 : Nat} {post : AH → Prop} (C : Cx G p R s m args meth c 4 cX12_next RX12 n0 s0 1 20) (hr : meth.sig.returnType = none)   {h : AH} {al0 : Nat} {xl1 : Int32} {xs0 : Int32} {as1 : Nat} (hw : wb_X12_next_121  h al0 xl1 xs0 as1 post) : AW G p l e R s m args below meth c 4 (QM G (pV post) args s below n0 s0) 121 [(0, .ref (G.1 + al0)), (1, .int xl1)] [.int xs0, .ref (G.1 + as1)] h := by
  unfold wb_X12_next_121 at hw
  refine r_putI C fp_RX12_164_11 hw.1 rfl dX12_next_121 ?_
  replace hw := hw.2
  refine r_toph fun hv1 ehv1 => ?_
  replace hw := hw hv1 ehv1
  refine r_aload_n C dX12_next_124 0 rfl ?_
  refine r_iload_n C dX12_next_125 1 rfl ?_
  refine r_putI C fp_RX12_174_11 hw.1 rfl dX12_next_126 ?_
  replace hw := hw.2
  refine r_toph fun hv2 ehv2 => ?_
  replace hw := hw hv2 ehv2
  refine r_aload_n C dX12_next_129 0 rfl ?_
  refine r_dup C dX12_next_130 rfl ?_
  refine r_getI C fl_RX12_21_11 hw.1 (fun _ _ _ => rfl) dX12_next_131 ?_
  replace hw := hw.2
  refine r_iconst (v := 1) C dX12_next_134 (by decide) ?_
  refine r_iadd C dX12_next_135 ?_
  refine r_putI C fp_RX12_21_11 hw.1 rfl dX12_next_136 ?_
  replace hw := hw.2
  refine r_toph fun hv3 ehv3 => ?_
  replace hw := hw hv3 ehv3
  exact r_vret C hr dX12_next_139 hw
def wb_X12_next_80  (h : AH) (al0 : Nat)  (post : AH → Prop) : Prop := (ob h al0 11) ∧ wp_X12_peek h al0  (fun hv1 iv2 => (0 ≤ iv2 → (wp_X12_isSmall hv1 iv2 (fun hv3 iv4 => (¬ iv4 = 0 → (wb_X12_next_140  hv3 al0 iv2 post)) ∧ (iv4 = 0 → (wp_X12_isDigit hv3 iv2 (fun hv5 iv6 => (¬ iv6 = 0 → (wb_X12_next_140  hv5 al0 iv2 post)) ∧ (iv6 = 0 → ((¬ iv2 = 59 → (wb_X12_next_121  hv5 al0 iv2 4 al0 post)) ∧ (iv2 = 59 → (wb_X12_next_121  hv5 al0 iv2 3 al0 post)))))))))) ∧ (¬ 0 ≤ iv2 → ((ob hv1 al0 11) ∧ (∀ hv7 : AH, hv7 = hI hv1 al0 11 0 → (post hv7)))))
set_option maxRecDepth 100000 in
theorem tb_X12_next_80 {G : GG} {p : Program} {l : Launch} {e : Env} {R : Room} {s : State} {m : MethodId} {args : Array Value} {below : List Frame} {meth : Method} {c : Code} {n0 s0 : Nat} {post : AH → Prop} (C : Cx G p R s m args meth c 4 cX12_next RX12 n0 s0 1 20) (hr : meth.sig.returnType = none)   {h : AH} {al0 : Nat}  (hw : wb_X12_next_80  h al0 post) : AW G p l e R s m args below meth c 4 (QM G (pV post) args s below n0 s0) 80 [(0, .ref (G.1 + al0))] [] h := by
  unfold wb_X12_next_80 at hw
  refine r_aload_n C dX12_next_80 0 rfl ?_
  have hob := hw.1
  replace hw := hw.2
  refine r_callV C (As := []) (rest := []) (c_X12_peek G h al0  _ hw) yl_X12_peek (gm7 (List.mem_of_getElem? (i := 155) rfl) rfl) (gm7 (List.mem_of_getElem? (i := 157) rfl) rfl) (ci := 11) rfl (by decide) (gsel (List.mem_of_getElem? (i := 42) rfl)) hob (by decide) rfl (Nat.le_of_ble_eq_true rfl) dX12_next_81 rfl (kI fun hv1 iv2 hw => ?_)
  refine r_istore_n C dX12_next_84 [(1, .int iv2), (0, .ref (G.1 + al0))] (by decide) rfl ?_
  refine r_iload_n C dX12_next_85 0 rfl ?_
  refine r_if_ge C dX12_next_86 95 (by decide) (fun hc => ?_) (fun hc => ?_)
  · replace hw := hw.1 hc
    refine r_iload_n C dX12_next_95 0 rfl ?_
    refine r_callS C (As := [.int iv2]) (rest := []) (c_X12_isSmall G hv1 iv2 _ hw) yl_X12_isSmall (gm7 (List.mem_of_getElem? (i := 159) rfl) rfl) (gm7 (List.mem_of_getElem? (i := 160) rfl) rfl) (by decide) rfl (Nat.le_of_ble_eq_true rfl) dX12_next_96 rfl (kI fun hv3 iv4 hw => ?_)
    refine r_if_ne C dX12_next_99 140 (by decide) (fun hc => ?_) (fun hc => ?_)
    · replace hw := hw.1 hc
      refine r_sub [1, 0] rfl ?_
      exact tb_X12_next_140 C hr  hw
    · replace hw := hw.2 hc
      refine r_iload_n C dX12_next_102 0 rfl ?_
      refine r_callS C (As := [.int iv2]) (rest := []) (c_X12_isDigit G hv3 iv2 _ hw) yl_X12_isDigit (gm7 (List.mem_of_getElem? (i := 162) rfl) rfl) (gm7 (List.mem_of_getElem? (i := 163) rfl) rfl) (by decide) rfl (Nat.le_of_ble_eq_true rfl) dX12_next_103 rfl (kI fun hv5 iv6 hw => ?_)
      refine r_if_ne C dX12_next_106 140 (by decide) (fun hc => ?_) (fun hc => ?_)
      · replace hw := hw.1 hc
        refine r_sub [1, 0] rfl ?_
        exact tb_X12_next_140 C hr  hw
      · replace hw := hw.2 hc
        refine r_aload_n C dX12_next_109 1 rfl ?_
        refine r_iload_n C dX12_next_110 0 rfl ?_
        refine r_bipush (v := 59) C dX12_next_111 (by decide) ?_
        refine r_icmp_ne C dX12_next_113 120 (by decide) (fun hc => ?_) (fun hc => ?_)
        · replace hw := hw.1 hc
          refine r_iconst (v := 4) C dX12_next_120 (by decide) ?_
          refine r_sub [1, 0] rfl ?_
          exact tb_X12_next_121 C hr  hw
        · replace hw := hw.2 hc
          refine r_iconst (v := 3) C dX12_next_116 (by decide) ?_
          refine r_goto C dX12_next_117 121 (by decide) ?_
          refine r_sub [1, 0] rfl ?_
          exact tb_X12_next_121 C hr  hw
  · replace hw := hw.2 hc
    refine r_aload_n C dX12_next_89 1 rfl ?_
    refine r_iconst (v := 0) C dX12_next_90 (by decide) ?_
    refine r_putI C fp_RX12_164_11 hw.1 rfl dX12_next_91 ?_
    replace hw := hw.2
    refine r_toph fun hv7 ehv7 => ?_
    replace hw := hw hv7 ehv7
    exact r_vret C hr dX12_next_94 hw
def wb_X12_next_18 (K0 : AH → Nat → Prop) (h : AH) (al0 : Nat)  (post : AH → Prop) : Prop := (ob h al0 11) ∧ ((ob h al0 11) ∧ (∀ hv1 : AH, hv1 = hI h al0 4 ((aI h al0 4) + (1 : Int32)) → (K0 hv1 al0)))
set_option maxRecDepth 100000 in
theorem tb_X12_next_18 {G : GG} {p : Program} {l : Launch} {e : Env} {R : Room} {s : State} {m : MethodId} {args : Array Value} {below : List Frame} {meth : Method} {c : Code} {n0 s0 : Nat} {post : AH → Prop} (C : Cx G p R s m args meth c 4 cX12_next RX12 n0 s0 1 20) (hr : meth.sig.returnType = none) {K0 : AH → Nat → Prop} (hK0 : ∀ (h : AH) (al0 : Nat), K0 h al0 → AW G p l e R s m args below meth c 4 (QM G (pV post) args s below n0 s0) 0 [(0, .ref (G.1 + al0))] [] h) {h : AH} {al0 : Nat}  (hw : wb_X12_next_18 K0 h al0 post) : AW G p l e R s m args below meth c 4 (QM G (pV post) args s below n0 s0) 18 [(0, .ref (G.1 + al0))] [] h := by
  unfold wb_X12_next_18 at hw
  refine r_aload_n C dX12_next_18 0 rfl ?_
  refine r_dup C dX12_next_19 rfl ?_
  refine r_getI C fl_RX12_21_11 hw.1 (fun _ _ _ => rfl) dX12_next_20 ?_
  replace hw := hw.2
  refine r_iconst (v := 1) C dX12_next_23 (by decide) ?_
  refine r_iadd C dX12_next_24 ?_
  refine r_putI C fp_RX12_21_11 hw.1 rfl dX12_next_25 ?_
  replace hw := hw.2
  refine r_toph fun hv1 ehv1 => ?_
  replace hw := hw hv1 ehv1
  refine r_goto C dX12_next_28 0 (by decide) ?_
  refine r_sub [0] rfl ?_
  exact hK0 _ _ hw
def wb_X12_next_0 (K0 : AH → Nat → Prop) (h : AH) (al0 : Nat)  (post : AH → Prop) : Prop := (ob h al0 11) ∧ wp_X12_peek h al0  (fun hv1 iv2 => (iv2 = 32 → (wb_X12_next_18 K0 hv1 al0 post)) ∧ (¬ iv2 = 32 → ((ob hv1 al0 11) ∧ wp_X12_peek hv1 al0  (fun hv3 iv4 => (¬ iv4 = 10 → ((ob hv3 al0 11) ∧ ((ob hv3 al0 11) ∧ (∀ hv5 : AH, hv5 = hI hv3 al0 12 (aI hv3 al0 4) → ((ob hv5 al0 11) ∧ (∀ hv6 : AH, hv6 = hI hv5 al0 13 0 → ((ob hv6 al0 11) ∧ ((ob hv6 al0 11) ∧ (((aI hv6 al0 3) ≤ (aI hv6 al0 5) → (wb_X12_next_80  hv6 al0 post)) ∧ (¬ (aI hv6 al0 3) ≤ (aI hv6 al0 5) → ((ob hv6 al0 11) ∧ ((ob hv6 al0 11) ∧ (((aI hv6 al0 4) < (aI hv6 al0 5) → (wb_X12_next_80  hv6 al0 post)) ∧ (¬ (aI hv6 al0 4) < (aI hv6 al0 5) → ((ob hv6 al0 11) ∧ ((ob hv6 al0 11) ∧ (∀ hv7 : AH, hv7 = hI hv6 al0 12 (aI hv6 al0 5) → ((ob hv7 al0 11) ∧ (∀ hv8 : AH, hv8 = hI hv7 al0 11 4 → (post hv8)))))))))))))))))))) ∧ (iv4 = 10 → (wb_X12_next_18 K0 hv3 al0 post))))))
set_option maxRecDepth 100000 in
theorem tb_X12_next_0 {G : GG} {p : Program} {l : Launch} {e : Env} {R : Room} {s : State} {m : MethodId} {args : Array Value} {below : List Frame} {meth : Method} {c : Code} {n0 s0 : Nat} {post : AH → Prop} (C : Cx G p R s m args meth c 4 cX12_next RX12 n0 s0 1 20) (hr : meth.sig.returnType = none) {K0 : AH → Nat → Prop} (hK0 : ∀ (h : AH) (al0 : Nat), K0 h al0 → AW G p l e R s m args below meth c 4 (QM G (pV post) args s below n0 s0) 0 [(0, .ref (G.1 + al0))] [] h) {h : AH} {al0 : Nat}  (hw : wb_X12_next_0 K0 h al0 post) : AW G p l e R s m args below meth c 4 (QM G (pV post) args s below n0 s0) 0 [(0, .ref (G.1 + al0))] [] h := by
  unfold wb_X12_next_0 at hw
  refine r_aload_n C dX12_next_0 0 rfl ?_
  have hob := hw.1
  replace hw := hw.2
  refine r_callV C (As := []) (rest := []) (c_X12_peek G h al0  _ hw) yl_X12_peek (gm7 (List.mem_of_getElem? (i := 155) rfl) rfl) (gm7 (List.mem_of_getElem? (i := 157) rfl) rfl) (ci := 11) rfl (by decide) (gsel (List.mem_of_getElem? (i := 42) rfl)) hob (by decide) rfl (Nat.le_of_ble_eq_true rfl) dX12_next_1 rfl (kI fun hv1 iv2 hw => ?_)
  refine r_bipush (v := 32) C dX12_next_4 (by decide) ?_
  refine r_icmp_eq C dX12_next_6 18 (by decide) (fun hc => ?_) (fun hc => ?_)
  · replace hw := hw.1 hc
    refine r_sub [0] rfl ?_
    exact tb_X12_next_18 C hr hK0 hw
  · replace hw := hw.2 hc
    refine r_aload_n C dX12_next_9 0 rfl ?_
    have hob := hw.1
    replace hw := hw.2
    refine r_callV C (As := []) (rest := []) (c_X12_peek G hv1 al0  _ hw) yl_X12_peek (gm7 (List.mem_of_getElem? (i := 155) rfl) rfl) (gm7 (List.mem_of_getElem? (i := 157) rfl) rfl) (ci := 11) rfl (by decide) (gsel (List.mem_of_getElem? (i := 42) rfl)) hob (by decide) rfl (Nat.le_of_ble_eq_true rfl) dX12_next_10 rfl (kI fun hv3 iv4 hw => ?_)
    refine r_bipush (v := 10) C dX12_next_13 (by decide) ?_
    refine r_icmp_ne C dX12_next_15 31 (by decide) (fun hc => ?_) (fun hc => ?_)
    · replace hw := hw.1 hc
      refine r_aload_n C dX12_next_31 0 rfl ?_
      refine r_aload_n C dX12_next_32 0 rfl ?_
      refine r_getI C fl_RX12_21_11 hw.1 (fun _ _ _ => rfl) dX12_next_33 ?_
      replace hw := hw.2
      refine r_putI C fp_RX12_158_11 hw.1 rfl dX12_next_36 ?_
      replace hw := hw.2
      refine r_toph fun hv5 ehv5 => ?_
      replace hw := hw hv5 ehv5
      refine r_aload_n C dX12_next_39 0 rfl ?_
      refine r_iconst (v := 0) C dX12_next_40 (by decide) ?_
      refine r_putI C fp_RX12_161_11 hw.1 rfl dX12_next_41 ?_
      replace hw := hw.2
      refine r_toph fun hv6 ehv6 => ?_
      replace hw := hw hv6 ehv6
      refine r_aload_n C dX12_next_44 0 rfl ?_
      refine r_getI C fl_RX12_18_11 hw.1 (fun _ _ _ => rfl) dX12_next_45 ?_
      replace hw := hw.2
      refine r_aload_n C dX12_next_48 0 rfl ?_
      refine r_getI C fl_RX12_24_11 hw.1 (fun _ _ _ => rfl) dX12_next_49 ?_
      replace hw := hw.2
      refine r_icmp_le C dX12_next_52 80 (by decide) (fun hc => ?_) (fun hc => ?_)
      · replace hw := hw.1 hc
        refine r_sub [0] rfl ?_
        exact tb_X12_next_80 C hr  hw
      · replace hw := hw.2 hc
        refine r_aload_n C dX12_next_55 0 rfl ?_
        refine r_getI C fl_RX12_21_11 hw.1 (fun _ _ _ => rfl) dX12_next_56 ?_
        replace hw := hw.2
        refine r_aload_n C dX12_next_59 0 rfl ?_
        refine r_getI C fl_RX12_24_11 hw.1 (fun _ _ _ => rfl) dX12_next_60 ?_
        replace hw := hw.2
        refine r_icmp_lt C dX12_next_63 80 (by decide) (fun hc => ?_) (fun hc => ?_)
        · replace hw := hw.1 hc
          refine r_sub [0] rfl ?_
          exact tb_X12_next_80 C hr  hw
        · replace hw := hw.2 hc
          refine r_aload_n C dX12_next_66 0 rfl ?_
          refine r_aload_n C dX12_next_67 0 rfl ?_
          refine r_getI C fl_RX12_24_11 hw.1 (fun _ _ _ => rfl) dX12_next_68 ?_
          replace hw := hw.2
          refine r_putI C fp_RX12_158_11 hw.1 rfl dX12_next_71 ?_
          replace hw := hw.2
          refine r_toph fun hv7 ehv7 => ?_
          replace hw := hw hv7 ehv7
          refine r_aload_n C dX12_next_74 0 rfl ?_
          refine r_iconst (v := 4) C dX12_next_75 (by decide) ?_
          refine r_putI C fp_RX12_164_11 hw.1 rfl dX12_next_76 ?_
          replace hw := hw.2
          refine r_toph fun hv8 ehv8 => ?_
          replace hw := hw hv8 ehv8
          exact r_vret C hr dX12_next_79 hw
    · replace hw := hw.2 hc
      refine r_sub [0] rfl ?_
      exact tb_X12_next_18 C hr hK0 hw
def wl_X12_next_0  (post : AH → Prop) : Nat → AH → Nat → Prop
  | 0 => fun _ _ => False
  | n + 1 => fun h al0 => wb_X12_next_0  (wl_X12_next_0  post n) h al0 post
theorem tl_X12_next_0 {G : GG} {p : Program} {l : Launch} {e : Env} {R : Room} {s : State} {m : MethodId} {args : Array Value} {below : List Frame} {meth : Method} {c : Code} {n0 s0 : Nat} {post : AH → Prop} (C : Cx G p R s m args meth c 4 cX12_next RX12 n0 s0 1 20) (hr : meth.sig.returnType = none)   : ∀ (n : Nat) (h : AH) (al0 : Nat), wl_X12_next_0  post n h al0 → AW G p l e R s m args below meth c 4 (QM G (pV post) args s below n0 s0) 0 [(0, .ref (G.1 + al0))] [] h := by
  intro n
  induction n with
  | zero => intro h al0 hw; exact hw.elim
  | succ n ih => intro h al0 hw; exact tb_X12_next_0 C hr  ih hw
def wp_X12_next (h : AH) (a0 : Nat) (post : AH → Prop) : Prop := ∃ n, wl_X12_next_0  post n h a0
set_option maxRecDepth 100000 in
theorem c_X12_next (G : GG) (h : AH) (a0 : Nat) (post : AH → Prop) (hw : wp_X12_next h a0 post) : MC G yX12_next cX12_next 4 none 1 20 h [.ref (G.1 + a0)] (pV post) := by
  refine MC.of (lv := [(0, .ref (G.1 + a0))]) (by decide) (Nat.le_of_ble_eq_true rfl) rfl fun p l e R s m args below meth c C hr hnm => ?_
  unfold wp_X12_next at hw
  refine r_sub [0] rfl ?_
  obtain ⟨n, hw⟩ := hw
  exact tl_X12_next_0 C hr  n _ _ hw
theorem dX12_bad_0 : decode cX12_bad 0 = .ok (.aload_n 0, 1) := by decide +kernel
theorem dX12_bad_1 : decode cX12_bad 1 = .ok (.iload_n 1, 1) := by decide +kernel
theorem dX12_bad_2 : decode cX12_bad 2 = .ok (.putfield 181, 3) := by decide +kernel
theorem dX12_bad_5 : decode cX12_bad 5 = .ok (.aload_n 0, 1) := by decide +kernel
theorem dX12_bad_6 : decode cX12_bad 6 = .ok (.aload_n 0, 1) := by decide +kernel
theorem dX12_bad_7 : decode cX12_bad 7 = .ok (.getfield 158, 3) := by decide +kernel
theorem dX12_bad_10 : decode cX12_bad 10 = .ok (.putfield 184, 3) := by decide +kernel
theorem dX12_bad_13 : decode cX12_bad 13 = .ok (.iconst 0, 1) := by decide +kernel
theorem dX12_bad_14 : decode cX12_bad 14 = .ok (.ireturn, 1) := by decide +kernel
def wp_X12_bad (h : AH) (a0 : Nat) (x1 : Int32) (post : AH → Int32 → Prop) : Prop := (ob h a0 11) ∧ (∀ hv1 : AH, hv1 = hI h a0 15 x1 → ((ob hv1 a0 11) ∧ ((ob hv1 a0 11) ∧ (∀ hv2 : AH, hv2 = hI hv1 a0 16 (aI hv1 a0 12) → (((0 : Int32) = 0 ∨ (0 : Int32) = 1) ∧ post hv2 0)))))
set_option maxRecDepth 100000 in
theorem c_X12_bad (G : GG) (h : AH) (a0 : Nat) (x1 : Int32) (post : AH → Int32 → Prop) (hw : wp_X12_bad h a0 x1 post) : MC G yX12_bad cX12_bad 2 (some .boolean) 0 0 h [.ref (G.1 + a0), .int x1] (pI post) := by
  refine MC.of (lv := [(0, .ref (G.1 + a0)), (1, .int x1)]) (by decide) (Nat.le_of_ble_eq_true rfl) rfl fun p l e R s m args below meth c C hr hnm => ?_
  unfold wp_X12_bad at hw
  refine r_aload_n C dX12_bad_0 0 rfl ?_
  refine r_iload_n C dX12_bad_1 1 rfl ?_
  refine r_putI C fp_RX12_181_11 hw.1 rfl dX12_bad_2 ?_
  replace hw := hw.2
  refine r_toph fun hv1 ehv1 => ?_
  replace hw := hw hv1 ehv1
  refine r_aload_n C dX12_bad_5 0 rfl ?_
  refine r_aload_n C dX12_bad_6 0 rfl ?_
  refine r_getI C fl_RX12_158_11 hw.1 (fun _ _ _ => rfl) dX12_bad_7 ?_
  replace hw := hw.2
  refine r_putI C fp_RX12_184_11 hw.1 rfl dX12_bad_10 ?_
  replace hw := hw.2
  refine r_toph fun hv2 ehv2 => ?_
  replace hw := hw hv2 ehv2
  refine r_iconst (v := 0) C dX12_bad_13 (by decide) ?_
  exact r_zret C hr dX12_bad_14 hw.1 hw.2
theorem dX12_isWord_0 : decode cX12_isWord 0 = .ok (.aload_n 0, 1) := by decide +kernel
theorem dX12_isWord_1 : decode cX12_isWord 1 = .ok (.getfield 164, 3) := by decide +kernel
theorem dX12_isWord_4 : decode cX12_isWord 4 = .ok (.iconst 1, 1) := by decide +kernel
theorem dX12_isWord_5 : decode cX12_isWord 5 = .ok (.if_icmp .ne 16, 3) := by decide +kernel
theorem dX12_isWord_8 : decode cX12_isWord 8 = .ok (.aload_n 0, 1) := by decide +kernel
theorem dX12_isWord_9 : decode cX12_isWord 9 = .ok (.getfield 177, 3) := by decide +kernel
theorem dX12_isWord_12 : decode cX12_isWord 12 = .ok (.lload_n 1, 1) := by decide +kernel
theorem dX12_isWord_13 : decode cX12_isWord 13 = .ok (.lcmp, 1) := by decide +kernel
theorem dX12_isWord_14 : decode cX12_isWord 14 = .ok (.ifCond .ne 7, 3) := by decide +kernel
theorem dX12_isWord_17 : decode cX12_isWord 17 = .ok (.iconst 1, 1) := by decide +kernel
theorem dX12_isWord_18 : decode cX12_isWord 18 = .ok (.goto 4, 3) := by decide +kernel
theorem dX12_isWord_21 : decode cX12_isWord 21 = .ok (.iconst 0, 1) := by decide +kernel
theorem dX12_isWord_22 : decode cX12_isWord 22 = .ok (.ireturn, 1) := by decide +kernel
def wp_X12_isWord (h : AH) (a0 : Nat) (z1 : Int64) (post : AH → Int32 → Prop) : Prop := (ob h a0 11) ∧ ((¬ (aI h a0 11) = 1 → (((0 : Int32) = 0 ∨ (0 : Int32) = 1) ∧ post h 0)) ∧ ((aI h a0 11) = 1 → ((ob h a0 11) ∧ ((¬ (lg_cmp (aJ h a0 17) z1) = 0 → (((0 : Int32) = 0 ∨ (0 : Int32) = 1) ∧ post h 0)) ∧ ((lg_cmp (aJ h a0 17) z1) = 0 → (((1 : Int32) = 0 ∨ (1 : Int32) = 1) ∧ post h 1))))))
set_option maxRecDepth 100000 in
theorem c_X12_isWord (G : GG) (h : AH) (a0 : Nat) (z1 : Int64) (post : AH → Int32 → Prop) (hw : wp_X12_isWord h a0 z1 post) : MC G yX12_isWord cX12_isWord 3 (some .boolean) 0 0 h [.ref (G.1 + a0), .long z1] (pI post) := by
  refine MC.of (lv := [(0, .ref (G.1 + a0)), (1, .long z1)]) (by decide) (Nat.le_of_ble_eq_true rfl) rfl fun p l e R s m args below meth c C hr hnm => ?_
  unfold wp_X12_isWord at hw
  refine r_aload_n C dX12_isWord_0 0 rfl ?_
  refine r_getI C fl_RX12_164_11 hw.1 (fun _ _ _ => rfl) dX12_isWord_1 ?_
  replace hw := hw.2
  refine r_iconst (v := 1) C dX12_isWord_4 (by decide) ?_
  refine r_icmp_ne C dX12_isWord_5 21 (by decide) (fun hc => ?_) (fun hc => ?_)
  · replace hw := hw.1 hc
    refine r_iconst (v := 0) C dX12_isWord_21 (by decide) ?_
    exact r_zret C hr dX12_isWord_22 hw.1 hw.2
  · replace hw := hw.2 hc
    refine r_aload_n C dX12_isWord_8 0 rfl ?_
    refine r_getJ C fl_RX12_177_11 hw.1 (fun _ _ _ => rfl) dX12_isWord_9 ?_
    replace hw := hw.2
    refine r_lload_n C dX12_isWord_12 1 rfl ?_
    refine r_lcmp C dX12_isWord_13 ?_
    refine r_if_ne C dX12_isWord_14 21 (by decide) (fun hc => ?_) (fun hc => ?_)
    · replace hw := hw.1 hc
      refine r_iconst (v := 0) C dX12_isWord_21 (by decide) ?_
      exact r_zret C hr dX12_isWord_22 hw.1 hw.2
    · replace hw := hw.2 hc
      refine r_iconst (v := 1) C dX12_isWord_17 (by decide) ?_
      refine r_goto C dX12_isWord_18 22 (by decide) ?_
      exact r_zret C hr dX12_isWord_22 hw.1 hw.2
theorem dX12_isSign_0 : decode cX12_isSign 0 = .ok (.aload_n 0, 1) := by decide +kernel
theorem dX12_isSign_1 : decode cX12_isSign 1 = .ok (.getfield 164, 3) := by decide +kernel
theorem dX12_isSign_4 : decode cX12_isSign 4 = .ok (.iconst 3, 1) := by decide +kernel
theorem dX12_isSign_5 : decode cX12_isSign 5 = .ok (.if_icmp .ne 15, 3) := by decide +kernel
theorem dX12_isSign_8 : decode cX12_isSign 8 = .ok (.aload_n 0, 1) := by decide +kernel
theorem dX12_isSign_9 : decode cX12_isSign 9 = .ok (.getfield 174, 3) := by decide +kernel
theorem dX12_isSign_12 : decode cX12_isSign 12 = .ok (.iload_n 1, 1) := by decide +kernel
theorem dX12_isSign_13 : decode cX12_isSign 13 = .ok (.if_icmp .ne 7, 3) := by decide +kernel
theorem dX12_isSign_16 : decode cX12_isSign 16 = .ok (.iconst 1, 1) := by decide +kernel
theorem dX12_isSign_17 : decode cX12_isSign 17 = .ok (.goto 4, 3) := by decide +kernel
theorem dX12_isSign_20 : decode cX12_isSign 20 = .ok (.iconst 0, 1) := by decide +kernel
theorem dX12_isSign_21 : decode cX12_isSign 21 = .ok (.ireturn, 1) := by decide +kernel
def wp_X12_isSign (h : AH) (a0 : Nat) (x1 : Int32) (post : AH → Int32 → Prop) : Prop := (ob h a0 11) ∧ ((¬ (aI h a0 11) = 3 → (((0 : Int32) = 0 ∨ (0 : Int32) = 1) ∧ post h 0)) ∧ ((aI h a0 11) = 3 → ((ob h a0 11) ∧ ((¬ (aI h a0 14) = x1 → (((0 : Int32) = 0 ∨ (0 : Int32) = 1) ∧ post h 0)) ∧ ((aI h a0 14) = x1 → (((1 : Int32) = 0 ∨ (1 : Int32) = 1) ∧ post h 1))))))
set_option maxRecDepth 100000 in
theorem c_X12_isSign (G : GG) (h : AH) (a0 : Nat) (x1 : Int32) (post : AH → Int32 → Prop) (hw : wp_X12_isSign h a0 x1 post) : MC G yX12_isSign cX12_isSign 2 (some .boolean) 0 0 h [.ref (G.1 + a0), .int x1] (pI post) := by
  refine MC.of (lv := [(0, .ref (G.1 + a0)), (1, .int x1)]) (by decide) (Nat.le_of_ble_eq_true rfl) rfl fun p l e R s m args below meth c C hr hnm => ?_
  unfold wp_X12_isSign at hw
  refine r_aload_n C dX12_isSign_0 0 rfl ?_
  refine r_getI C fl_RX12_164_11 hw.1 (fun _ _ _ => rfl) dX12_isSign_1 ?_
  replace hw := hw.2
  refine r_iconst (v := 3) C dX12_isSign_4 (by decide) ?_
  refine r_icmp_ne C dX12_isSign_5 20 (by decide) (fun hc => ?_) (fun hc => ?_)
  · replace hw := hw.1 hc
    refine r_iconst (v := 0) C dX12_isSign_20 (by decide) ?_
    exact r_zret C hr dX12_isSign_21 hw.1 hw.2
  · replace hw := hw.2 hc
    refine r_aload_n C dX12_isSign_8 0 rfl ?_
    refine r_getI C fl_RX12_174_11 hw.1 (fun _ _ _ => rfl) dX12_isSign_9 ?_
    replace hw := hw.2
    refine r_iload_n C dX12_isSign_12 1 rfl ?_
    refine r_icmp_ne C dX12_isSign_13 20 (by decide) (fun hc => ?_) (fun hc => ?_)
    · replace hw := hw.1 hc
      refine r_iconst (v := 0) C dX12_isSign_20 (by decide) ?_
      exact r_zret C hr dX12_isSign_21 hw.1 hw.2
    · replace hw := hw.2 hc
      refine r_iconst (v := 1) C dX12_isSign_16 (by decide) ?_
      refine r_goto C dX12_isSign_17 21 (by decide) ?_
      exact r_zret C hr dX12_isSign_21 hw.1 hw.2
theorem dX12_sign_0 : decode cX12_sign 0 = .ok (.aload_n 0, 1) := by decide +kernel
theorem dX12_sign_1 : decode cX12_sign 1 = .ok (.iload_n 1, 1) := by decide +kernel
theorem dX12_sign_2 : decode cX12_sign 2 = .ok (.invokevirtual 187, 3) := by decide +kernel
theorem dX12_sign_5 : decode cX12_sign 5 = .ok (.ifCond .ne 9, 3) := by decide +kernel
theorem dX12_sign_8 : decode cX12_sign 8 = .ok (.aload_n 0, 1) := by decide +kernel
theorem dX12_sign_9 : decode cX12_sign 9 = .ok (.iconst 1, 1) := by decide +kernel
theorem dX12_sign_10 : decode cX12_sign 10 = .ok (.invokevirtual 190, 3) := by decide +kernel
theorem dX12_sign_13 : decode cX12_sign 13 = .ok (.ireturn, 1) := by decide +kernel
theorem dX12_sign_14 : decode cX12_sign 14 = .ok (.aload_n 0, 1) := by decide +kernel
theorem dX12_sign_15 : decode cX12_sign 15 = .ok (.invokevirtual 193, 3) := by decide +kernel
theorem dX12_sign_18 : decode cX12_sign 18 = .ok (.iconst 1, 1) := by decide +kernel
theorem dX12_sign_19 : decode cX12_sign 19 = .ok (.ireturn, 1) := by decide +kernel
def wp_X12_sign (h : AH) (a0 : Nat) (x1 : Int32) (post : AH → Int32 → Prop) : Prop := (ob h a0 11) ∧ wp_X12_isSign h a0 x1 (fun hv1 iv2 => (¬ iv2 = 0 → ((ob hv1 a0 11) ∧ wp_X12_next hv1 a0  (fun hv3  => ((1 : Int32) = 0 ∨ (1 : Int32) = 1) ∧ post hv3 1))) ∧ (iv2 = 0 → ((ob hv1 a0 11) ∧ wp_X12_bad hv1 a0 1 (fun hv4 iv5 => (iv5 = 0 ∨ iv5 = 1) ∧ post hv4 iv5))))
set_option maxRecDepth 100000 in
theorem c_X12_sign (G : GG) (h : AH) (a0 : Nat) (x1 : Int32) (post : AH → Int32 → Prop) (hw : wp_X12_sign h a0 x1 post) : MC G yX12_sign cX12_sign 2 (some .boolean) 2 43 h [.ref (G.1 + a0), .int x1] (pI post) := by
  refine MC.of (lv := [(0, .ref (G.1 + a0)), (1, .int x1)]) (by decide) (Nat.le_of_ble_eq_true rfl) rfl fun p l e R s m args below meth c C hr hnm => ?_
  unfold wp_X12_sign at hw
  refine r_aload_n C dX12_sign_0 0 rfl ?_
  refine r_iload_n C dX12_sign_1 1 rfl ?_
  have hob := hw.1
  replace hw := hw.2
  refine r_callV C (As := [.int x1]) (rest := []) (c_X12_isSign G h a0 x1 _ hw) yl_X12_isSign (gm8 (List.mem_of_getElem? (i := 22) rfl) rfl) (gm8 (List.mem_of_getElem? (i := 24) rfl) rfl) (ci := 11) rfl (by decide) (gsel (List.mem_of_getElem? (i := 65) rfl)) hob (by decide) rfl (Nat.le_of_ble_eq_true rfl) dX12_sign_2 rfl (kI fun hv1 iv2 hw => ?_)
  refine r_if_ne C dX12_sign_5 14 (by decide) (fun hc => ?_) (fun hc => ?_)
  · replace hw := hw.1 hc
    refine r_aload_n C dX12_sign_14 0 rfl ?_
    have hob := hw.1
    replace hw := hw.2
    refine r_callV C (As := []) (rest := []) (c_X12_next G hv1 a0  _ hw) yl_X12_next (gm7 (List.mem_of_getElem? (i := 151) rfl) rfl) (gm7 (List.mem_of_getElem? (i := 153) rfl) rfl) (ci := 11) rfl (by decide) (gsel (List.mem_of_getElem? (i := 41) rfl)) hob (by decide) rfl (Nat.le_of_ble_eq_true rfl) dX12_sign_15 rfl (kV fun hv3  hw => ?_)
    refine r_iconst (v := 1) C dX12_sign_18 (by decide) ?_
    exact r_zret C hr dX12_sign_19 hw.1 hw.2
  · replace hw := hw.2 hc
    refine r_aload_n C dX12_sign_8 0 rfl ?_
    refine r_iconst (v := 1) C dX12_sign_9 (by decide) ?_
    have hob := hw.1
    replace hw := hw.2
    refine r_callV C (As := [.int 1]) (rest := []) (c_X12_bad G hv1 a0 1 _ hw) yl_X12_bad (gm7 (List.mem_of_getElem? (i := 177) rfl) rfl) (gm7 (List.mem_of_getElem? (i := 179) rfl) rfl) (ci := 11) rfl (by decide) (gsel (List.mem_of_getElem? (i := 46) rfl)) hob (by decide) rfl (Nat.le_of_ble_eq_true rfl) dX12_sign_10 rfl (kI fun hv4 iv5 hw => ?_)
    exact r_zret C hr dX12_sign_13 hw.1 hw.2
theorem dX12_isName_0 : decode cX12_isName 0 = .ok (.aload_n 0, 1) := by decide +kernel
theorem dX12_isName_1 : decode cX12_isName 1 = .ok (.getfield 164, 3) := by decide +kernel
theorem dX12_isName_4 : decode cX12_isName 4 = .ok (.iconst 1, 1) := by decide +kernel
theorem dX12_isName_5 : decode cX12_isName 5 = .ok (.if_icmp .ne 7, 3) := by decide +kernel
theorem dX12_isName_8 : decode cX12_isName 8 = .ok (.iconst 1, 1) := by decide +kernel
theorem dX12_isName_9 : decode cX12_isName 9 = .ok (.goto 4, 3) := by decide +kernel
theorem dX12_isName_12 : decode cX12_isName 12 = .ok (.iconst 0, 1) := by decide +kernel
theorem dX12_isName_13 : decode cX12_isName 13 = .ok (.istore_n 1, 1) := by decide +kernel
theorem dX12_isName_14 : decode cX12_isName 14 = .ok (.iconst 0, 1) := by decide +kernel
theorem dX12_isName_15 : decode cX12_isName 15 = .ok (.istore_n 2, 1) := by decide +kernel
theorem dX12_isName_16 : decode cX12_isName 16 = .ok (.iload_n 2, 1) := by decide +kernel
theorem dX12_isName_17 : decode cX12_isName 17 = .ok (.bipush 18, 2) := by decide +kernel
theorem dX12_isName_19 : decode cX12_isName 19 = .ok (.if_icmp .ge 33, 3) := by decide +kernel
theorem dX12_isName_22 : decode cX12_isName 22 = .ok (.iload_n 1, 1) := by decide +kernel
theorem dX12_isName_23 : decode cX12_isName 23 = .ok (.ifCond .eq 21, 3) := by decide +kernel
theorem dX12_isName_26 : decode cX12_isName 26 = .ok (.aload_n 0, 1) := by decide +kernel
theorem dX12_isName_27 : decode cX12_isName 27 = .ok (.getfield 177, 3) := by decide +kernel
theorem dX12_isName_30 : decode cX12_isName 30 = .ok (.aload_n 0, 1) := by decide +kernel
theorem dX12_isName_31 : decode cX12_isName 31 = .ok (.getfield 47, 3) := by decide +kernel
theorem dX12_isName_34 : decode cX12_isName 34 = .ok (.iload_n 2, 1) := by decide +kernel
theorem dX12_isName_35 : decode cX12_isName 35 = .ok (.laload, 1) := by decide +kernel
theorem dX12_isName_36 : decode cX12_isName 36 = .ok (.lcmp, 1) := by decide +kernel
theorem dX12_isName_37 : decode cX12_isName 37 = .ok (.ifCond .eq 7, 3) := by decide +kernel
theorem dX12_isName_40 : decode cX12_isName 40 = .ok (.iconst 1, 1) := by decide +kernel
theorem dX12_isName_41 : decode cX12_isName 41 = .ok (.goto 4, 3) := by decide +kernel
theorem dX12_isName_44 : decode cX12_isName 44 = .ok (.iconst 0, 1) := by decide +kernel
theorem dX12_isName_45 : decode cX12_isName 45 = .ok (.istore_n 1, 1) := by decide +kernel
theorem dX12_isName_46 : decode cX12_isName 46 = .ok (.iinc 2 1, 3) := by decide +kernel
theorem dX12_isName_49 : decode cX12_isName 49 = .ok (.goto (-33), 3) := by decide +kernel
theorem dX12_isName_52 : decode cX12_isName 52 = .ok (.iload_n 1, 1) := by decide +kernel
theorem dX12_isName_53 : decode cX12_isName 53 = .ok (.ireturn, 1) := by decide +kernel
def wb_X12_isName_45 (K16 : AH → Nat → Int32 → Int32 → Prop) (h : AH) (al0 : Nat) (xl2 : Int32) (xs0 : Int32) (post : AH → Int32 → Prop) : Prop := ∀ iv1 : Int32, iv1 = xl2 + 1 → (K16 h al0 xs0 iv1)
set_option maxRecDepth 100000 in
theorem tb_X12_isName_45 {G : GG} {p : Program} {l : Launch} {e : Env} {R : Room} {s : State} {m : MethodId} {args : Array Value} {below : List Frame} {meth : Method} {c : Code} {n0 s0 : Nat} {post : AH → Int32 → Prop} (C : Cx G p R s m args meth c 3 cX12_isName RX12 n0 s0 0 0) (hr : meth.sig.returnType = (some .boolean)) {K16 : AH → Nat → Int32 → Int32 → Prop} (hK16 : ∀ (h : AH) (al0 : Nat) (xl1 : Int32) (xl2 : Int32), K16 h al0 xl1 xl2 → AW G p l e R s m args below meth c 3 (QM G (pI post) args s below n0 s0) 16 [(0, .ref (G.1 + al0)), (1, .int xl1), (2, .int xl2)] [] h) {h : AH} {al0 : Nat} {xl2 : Int32} {xs0 : Int32} (hw : wb_X12_isName_45 K16 h al0 xl2 xs0 post) : AW G p l e R s m args below meth c 3 (QM G (pI post) args s below n0 s0) 45 [(0, .ref (G.1 + al0)), (2, .int xl2)] [.int xs0] h := by
  unfold wb_X12_isName_45 at hw
  refine r_istore_n C dX12_isName_45 [(1, .int xs0), (0, .ref (G.1 + al0)), (2, .int xl2)] (by decide) rfl ?_
  obtain ⟨iv1, eiv1⟩ : ∃ q : Int32, q = xl2 + 1 := ⟨_, rfl⟩
  replace hw := hw iv1 eiv1
  refine r_iinc C dX12_isName_46 2 rfl (by rw [eiv1]; rfl) [(2, .int iv1), (1, .int xs0), (0, .ref (G.1 + al0))] (by decide) rfl ?_
  refine r_goto C dX12_isName_49 16 (by decide) ?_
  refine r_sub [2, 1, 0] rfl ?_
  exact hK16 _ _ _ _ hw
def wb_X12_isName_44 (K16 : AH → Nat → Int32 → Int32 → Prop) (h : AH) (al0 : Nat) (xl2 : Int32)  (post : AH → Int32 → Prop) : Prop := wb_X12_isName_45 K16 h al0 xl2 0 post
set_option maxRecDepth 100000 in
theorem tb_X12_isName_44 {G : GG} {p : Program} {l : Launch} {e : Env} {R : Room} {s : State} {m : MethodId} {args : Array Value} {below : List Frame} {meth : Method} {c : Code} {n0 s0 : Nat} {post : AH → Int32 → Prop} (C : Cx G p R s m args meth c 3 cX12_isName RX12 n0 s0 0 0) (hr : meth.sig.returnType = (some .boolean)) {K16 : AH → Nat → Int32 → Int32 → Prop} (hK16 : ∀ (h : AH) (al0 : Nat) (xl1 : Int32) (xl2 : Int32), K16 h al0 xl1 xl2 → AW G p l e R s m args below meth c 3 (QM G (pI post) args s below n0 s0) 16 [(0, .ref (G.1 + al0)), (1, .int xl1), (2, .int xl2)] [] h) {h : AH} {al0 : Nat} {xl2 : Int32}  (hw : wb_X12_isName_44 K16 h al0 xl2 post) : AW G p l e R s m args below meth c 3 (QM G (pI post) args s below n0 s0) 44 [(0, .ref (G.1 + al0)), (2, .int xl2)] [] h := by
  unfold wb_X12_isName_44 at hw
  refine r_iconst (v := 0) C dX12_isName_44 (by decide) ?_
  refine r_sub [0, 1] rfl ?_
  exact tb_X12_isName_45 C hr hK16 hw
def wb_X12_isName_16 (K16 : AH → Nat → Int32 → Int32 → Prop) (h : AH) (al0 : Nat) (xl1 : Int32) (xl2 : Int32)  (post : AH → Int32 → Prop) : Prop := (18 ≤ xl2 → ((xl1 = 0 ∨ xl1 = 1) ∧ post h xl1)) ∧ (¬ 18 ≤ xl2 → ((xl1 = 0 → (wb_X12_isName_44 K16 h al0 xl2 post)) ∧ (¬ xl1 = 0 → ((ob h al0 11) ∧ ((ob h al0 11) ∧ (∃ rv1, aP h al0 10 = some rv1 ∧ ((ob h rv1 14) ∧ ((vp_in xl2 (aL h rv1)) ∧ (((lg_cmp (aJ h al0 17) (aJ h rv1 xl2.toNatClampNeg)) = 0 → (wb_X12_isName_44 K16 h al0 xl2 post)) ∧ (¬ (lg_cmp (aJ h al0 17) (aJ h rv1 xl2.toNatClampNeg)) = 0 → (wb_X12_isName_45 K16 h al0 xl2 1 post)))))))))))
set_option maxRecDepth 100000 in
theorem tb_X12_isName_16 {G : GG} {p : Program} {l : Launch} {e : Env} {R : Room} {s : State} {m : MethodId} {args : Array Value} {below : List Frame} {meth : Method} {c : Code} {n0 s0 : Nat} {post : AH → Int32 → Prop} (C : Cx G p R s m args meth c 3 cX12_isName RX12 n0 s0 0 0) (hr : meth.sig.returnType = (some .boolean)) {K16 : AH → Nat → Int32 → Int32 → Prop} (hK16 : ∀ (h : AH) (al0 : Nat) (xl1 : Int32) (xl2 : Int32), K16 h al0 xl1 xl2 → AW G p l e R s m args below meth c 3 (QM G (pI post) args s below n0 s0) 16 [(0, .ref (G.1 + al0)), (1, .int xl1), (2, .int xl2)] [] h) {h : AH} {al0 : Nat} {xl1 : Int32} {xl2 : Int32}  (hw : wb_X12_isName_16 K16 h al0 xl1 xl2 post) : AW G p l e R s m args below meth c 3 (QM G (pI post) args s below n0 s0) 16 [(0, .ref (G.1 + al0)), (1, .int xl1), (2, .int xl2)] [] h := by
  unfold wb_X12_isName_16 at hw
  refine r_iload_n C dX12_isName_16 2 rfl ?_
  refine r_bipush (v := 18) C dX12_isName_17 (by decide) ?_
  refine r_icmp_ge C dX12_isName_19 52 (by decide) (fun hc => ?_) (fun hc => ?_)
  · replace hw := hw.1 hc
    refine r_iload_n C dX12_isName_52 1 rfl ?_
    exact r_zret C hr dX12_isName_53 hw.1 hw.2
  · replace hw := hw.2 hc
    refine r_iload_n C dX12_isName_22 1 rfl ?_
    refine r_if_eq C dX12_isName_23 44 (by decide) (fun hc => ?_) (fun hc => ?_)
    · replace hw := hw.1 hc
      refine r_sub [0, 2] rfl ?_
      exact tb_X12_isName_44 C hr hK16 hw
    · replace hw := hw.2 hc
      refine r_aload_n C dX12_isName_26 0 rfl ?_
      refine r_getJ C fl_RX12_177_11 hw.1 (fun _ _ _ => rfl) dX12_isName_27 ?_
      replace hw := hw.2
      refine r_aload_n C dX12_isName_30 0 rfl ?_
      have hob := hw.1
      obtain ⟨rv1, hp, hw⟩ := hw.2
      refine r_getP C fl_RX12_47_11 hob hp (fun _ _ _ => rfl) dX12_isName_31 ?_
      refine r_iload_n C dX12_isName_34 2 rfl ?_
      refine r_laload C hw.1 hw.2.1 dX12_isName_35 ?_
      replace hw := hw.2.2
      refine r_lcmp C dX12_isName_36 ?_
      refine r_if_eq C dX12_isName_37 44 (by decide) (fun hc => ?_) (fun hc => ?_)
      · replace hw := hw.1 hc
        refine r_sub [0, 2] rfl ?_
        exact tb_X12_isName_44 C hr hK16 hw
      · replace hw := hw.2 hc
        refine r_iconst (v := 1) C dX12_isName_40 (by decide) ?_
        refine r_goto C dX12_isName_41 45 (by decide) ?_
        refine r_sub [0, 2] rfl ?_
        exact tb_X12_isName_45 C hr hK16 hw
def wl_X12_isName_16  (post : AH → Int32 → Prop) : Nat → AH → Nat → Int32 → Int32 → Prop
  | 0 => fun _ _ _ _ => False
  | n + 1 => fun h al0 xl1 xl2 => wb_X12_isName_16  (wl_X12_isName_16  post n) h al0 xl1 xl2 post
theorem tl_X12_isName_16 {G : GG} {p : Program} {l : Launch} {e : Env} {R : Room} {s : State} {m : MethodId} {args : Array Value} {below : List Frame} {meth : Method} {c : Code} {n0 s0 : Nat} {post : AH → Int32 → Prop} (C : Cx G p R s m args meth c 3 cX12_isName RX12 n0 s0 0 0) (hr : meth.sig.returnType = (some .boolean))   : ∀ (n : Nat) (h : AH) (al0 : Nat) (xl1 : Int32) (xl2 : Int32), wl_X12_isName_16  post n h al0 xl1 xl2 → AW G p l e R s m args below meth c 3 (QM G (pI post) args s below n0 s0) 16 [(0, .ref (G.1 + al0)), (1, .int xl1), (2, .int xl2)] [] h := by
  intro n
  induction n with
  | zero => intro h al0 xl1 xl2 hw; exact hw.elim
  | succ n ih => intro h al0 xl1 xl2 hw; exact tb_X12_isName_16 C hr  ih hw
def wb_X12_isName_13  (h : AH) (al0 : Nat) (xs0 : Int32) (post : AH → Int32 → Prop) : Prop := ∃ n, wl_X12_isName_16  post n h al0 xs0 0
set_option maxRecDepth 100000 in
theorem tb_X12_isName_13 {G : GG} {p : Program} {l : Launch} {e : Env} {R : Room} {s : State} {m : MethodId} {args : Array Value} {below : List Frame} {meth : Method} {c : Code} {n0 s0 : Nat} {post : AH → Int32 → Prop} (C : Cx G p R s m args meth c 3 cX12_isName RX12 n0 s0 0 0) (hr : meth.sig.returnType = (some .boolean))   {h : AH} {al0 : Nat} {xs0 : Int32} (hw : wb_X12_isName_13  h al0 xs0 post) : AW G p l e R s m args below meth c 3 (QM G (pI post) args s below n0 s0) 13 [(0, .ref (G.1 + al0))] [.int xs0] h := by
  unfold wb_X12_isName_13 at hw
  refine r_istore_n C dX12_isName_13 [(1, .int xs0), (0, .ref (G.1 + al0))] (by decide) rfl ?_
  refine r_iconst (v := 0) C dX12_isName_14 (by decide) ?_
  refine r_istore_n C dX12_isName_15 [(2, .int 0), (1, .int xs0), (0, .ref (G.1 + al0))] (by decide) rfl ?_
  refine r_sub [2, 1, 0] rfl ?_
  obtain ⟨n, hw⟩ := hw
  exact tl_X12_isName_16 C hr  n _ _ _ _ hw
def wp_X12_isName (h : AH) (a0 : Nat) (post : AH → Int32 → Prop) : Prop := (ob h a0 11) ∧ ((¬ (aI h a0 11) = 1 → (wb_X12_isName_13  h a0 0 post)) ∧ ((aI h a0 11) = 1 → (wb_X12_isName_13  h a0 1 post)))
set_option maxRecDepth 100000 in
theorem c_X12_isName (G : GG) (h : AH) (a0 : Nat) (post : AH → Int32 → Prop) (hw : wp_X12_isName h a0 post) : MC G yX12_isName cX12_isName 3 (some .boolean) 0 0 h [.ref (G.1 + a0)] (pI post) := by
  refine MC.of (lv := [(0, .ref (G.1 + a0))]) (by decide) (Nat.le_of_ble_eq_true rfl) rfl fun p l e R s m args below meth c C hr hnm => ?_
  unfold wp_X12_isName at hw
  refine r_aload_n C dX12_isName_0 0 rfl ?_
  refine r_getI C fl_RX12_164_11 hw.1 (fun _ _ _ => rfl) dX12_isName_1 ?_
  replace hw := hw.2
  refine r_iconst (v := 1) C dX12_isName_4 (by decide) ?_
  refine r_icmp_ne C dX12_isName_5 12 (by decide) (fun hc => ?_) (fun hc => ?_)
  · replace hw := hw.1 hc
    refine r_iconst (v := 0) C dX12_isName_12 (by decide) ?_
    refine r_sub [0] rfl ?_
    exact tb_X12_isName_13 C hr  hw
  · replace hw := hw.2 hc
    refine r_iconst (v := 1) C dX12_isName_8 (by decide) ?_
    refine r_goto C dX12_isName_9 13 (by decide) ?_
    refine r_sub [0] rfl ?_
    exact tb_X12_isName_13 C hr  hw
theorem dX12_takes_0 : decode cX12_takes 0 = .ok (.aload_n 0, 1) := by decide +kernel
theorem dX12_takes_1 : decode cX12_takes 1 = .ok (.getfield 164, 3) := by decide +kernel
theorem dX12_takes_4 : decode cX12_takes 4 = .ok (.iconst 2, 1) := by decide +kernel
theorem dX12_takes_5 : decode cX12_takes 5 = .ok (.if_icmp .eq 9, 3) := by decide +kernel
theorem dX12_takes_8 : decode cX12_takes 8 = .ok (.aload_n 0, 1) := by decide +kernel
theorem dX12_takes_9 : decode cX12_takes 9 = .ok (.iconst 1, 1) := by decide +kernel
theorem dX12_takes_10 : decode cX12_takes 10 = .ok (.invokevirtual 190, 3) := by decide +kernel
theorem dX12_takes_13 : decode cX12_takes 13 = .ok (.ireturn, 1) := by decide +kernel
theorem dX12_takes_14 : decode cX12_takes 14 = .ok (.aload_n 0, 1) := by decide +kernel
theorem dX12_takes_15 : decode cX12_takes 15 = .ok (.getfield 174, 3) := by decide +kernel
theorem dX12_takes_18 : decode cX12_takes 18 = .ok (.iload_n 1, 1) := by decide +kernel
theorem dX12_takes_19 : decode cX12_takes 19 = .ok (.iload_n 2, 1) := by decide +kernel
theorem dX12_takes_20 : decode cX12_takes 20 = .ok (.invokestatic 196, 3) := by decide +kernel
theorem dX12_takes_23 : decode cX12_takes 23 = .ok (.ifCond .ne 9, 3) := by decide +kernel
theorem dX12_takes_26 : decode cX12_takes 26 = .ok (.aload_n 0, 1) := by decide +kernel
theorem dX12_takes_27 : decode cX12_takes 27 = .ok (.iconst 2, 1) := by decide +kernel
theorem dX12_takes_28 : decode cX12_takes 28 = .ok (.invokevirtual 190, 3) := by decide +kernel
theorem dX12_takes_31 : decode cX12_takes 31 = .ok (.ireturn, 1) := by decide +kernel
theorem dX12_takes_32 : decode cX12_takes 32 = .ok (.aload_n 0, 1) := by decide +kernel
theorem dX12_takes_33 : decode cX12_takes 33 = .ok (.aload_n 0, 1) := by decide +kernel
theorem dX12_takes_34 : decode cX12_takes 34 = .ok (.getfield 174, 3) := by decide +kernel
theorem dX12_takes_37 : decode cX12_takes 37 = .ok (.putfield 200, 3) := by decide +kernel
theorem dX12_takes_40 : decode cX12_takes 40 = .ok (.aload_n 0, 1) := by decide +kernel
theorem dX12_takes_41 : decode cX12_takes 41 = .ok (.invokevirtual 193, 3) := by decide +kernel
theorem dX12_takes_44 : decode cX12_takes 44 = .ok (.iconst 1, 1) := by decide +kernel
theorem dX12_takes_45 : decode cX12_takes 45 = .ok (.ireturn, 1) := by decide +kernel
def wp_X12_takes (h : AH) (a0 : Nat) (x1 : Int32) (x2 : Int32) (post : AH → Int32 → Prop) : Prop := (ob h a0 11) ∧ (((aI h a0 11) = 2 → ((ob h a0 11) ∧ (wp_X12_isIn h (aI h a0 14) x1 x2 (fun hv1 iv2 => (¬ iv2 = 0 → ((ob hv1 a0 11) ∧ ((ob hv1 a0 11) ∧ (∀ hv3 : AH, hv3 = hI hv1 a0 18 (aI hv1 a0 14) → ((ob hv3 a0 11) ∧ wp_X12_next hv3 a0  (fun hv4  => ((1 : Int32) = 0 ∨ (1 : Int32) = 1) ∧ post hv4 1)))))) ∧ (iv2 = 0 → ((ob hv1 a0 11) ∧ wp_X12_bad hv1 a0 2 (fun hv5 iv6 => (iv6 = 0 ∨ iv6 = 1) ∧ post hv5 iv6))))))) ∧ (¬ (aI h a0 11) = 2 → ((ob h a0 11) ∧ wp_X12_bad h a0 1 (fun hv7 iv8 => (iv8 = 0 ∨ iv8 = 1) ∧ post hv7 iv8))))
set_option maxRecDepth 100000 in
theorem c_X12_takes (G : GG) (h : AH) (a0 : Nat) (x1 : Int32) (x2 : Int32) (post : AH → Int32 → Prop) (hw : wp_X12_takes h a0 x1 x2 post) : MC G yX12_takes cX12_takes 3 (some .boolean) 2 43 h [.ref (G.1 + a0), .int x1, .int x2] (pI post) := by
  refine MC.of (lv := [(0, .ref (G.1 + a0)), (1, .int x1), (2, .int x2)]) (by decide) (Nat.le_of_ble_eq_true rfl) rfl fun p l e R s m args below meth c C hr hnm => ?_
  unfold wp_X12_takes at hw
  refine r_aload_n C dX12_takes_0 0 rfl ?_
  refine r_getI C fl_RX12_164_11 hw.1 (fun _ _ _ => rfl) dX12_takes_1 ?_
  replace hw := hw.2
  refine r_iconst (v := 2) C dX12_takes_4 (by decide) ?_
  refine r_icmp_eq C dX12_takes_5 14 (by decide) (fun hc => ?_) (fun hc => ?_)
  · replace hw := hw.1 hc
    refine r_aload_n C dX12_takes_14 0 rfl ?_
    refine r_getI C fl_RX12_174_11 hw.1 (fun _ _ _ => rfl) dX12_takes_15 ?_
    replace hw := hw.2
    refine r_iload_n C dX12_takes_18 1 rfl ?_
    refine r_iload_n C dX12_takes_19 2 rfl ?_
    refine r_callS C (As := [.int (aI h a0 14), .int x1, .int x2]) (rest := []) (c_X12_isIn G h (aI h a0 14) x1 x2 _ hw) yl_X12_isIn (gm7 (List.mem_of_getElem? (i := 189) rfl) rfl) (gm7 (List.mem_of_getElem? (i := 190) rfl) rfl) (by decide) rfl (Nat.le_of_ble_eq_true rfl) dX12_takes_20 rfl (kI fun hv1 iv2 hw => ?_)
    refine r_if_ne C dX12_takes_23 32 (by decide) (fun hc => ?_) (fun hc => ?_)
    · replace hw := hw.1 hc
      refine r_aload_n C dX12_takes_32 0 rfl ?_
      refine r_aload_n C dX12_takes_33 0 rfl ?_
      refine r_getI C fl_RX12_174_11 hw.1 (fun _ _ _ => rfl) dX12_takes_34 ?_
      replace hw := hw.2
      refine r_putI C fp_RX12_200_11 hw.1 rfl dX12_takes_37 ?_
      replace hw := hw.2
      refine r_toph fun hv3 ehv3 => ?_
      replace hw := hw hv3 ehv3
      refine r_aload_n C dX12_takes_40 0 rfl ?_
      have hob := hw.1
      replace hw := hw.2
      refine r_callV C (As := []) (rest := []) (c_X12_next G hv3 a0  _ hw) yl_X12_next (gm7 (List.mem_of_getElem? (i := 151) rfl) rfl) (gm7 (List.mem_of_getElem? (i := 153) rfl) rfl) (ci := 11) rfl (by decide) (gsel (List.mem_of_getElem? (i := 41) rfl)) hob (by decide) rfl (Nat.le_of_ble_eq_true rfl) dX12_takes_41 rfl (kV fun hv4  hw => ?_)
      refine r_iconst (v := 1) C dX12_takes_44 (by decide) ?_
      exact r_zret C hr dX12_takes_45 hw.1 hw.2
    · replace hw := hw.2 hc
      refine r_aload_n C dX12_takes_26 0 rfl ?_
      refine r_iconst (v := 2) C dX12_takes_27 (by decide) ?_
      have hob := hw.1
      replace hw := hw.2
      refine r_callV C (As := [.int 2]) (rest := []) (c_X12_bad G hv1 a0 2 _ hw) yl_X12_bad (gm7 (List.mem_of_getElem? (i := 177) rfl) rfl) (gm7 (List.mem_of_getElem? (i := 179) rfl) rfl) (ci := 11) rfl (by decide) (gsel (List.mem_of_getElem? (i := 46) rfl)) hob (by decide) rfl (Nat.le_of_ble_eq_true rfl) dX12_takes_28 rfl (kI fun hv5 iv6 hw => ?_)
      exact r_zret C hr dX12_takes_31 hw.1 hw.2
  · replace hw := hw.2 hc
    refine r_aload_n C dX12_takes_8 0 rfl ?_
    refine r_iconst (v := 1) C dX12_takes_9 (by decide) ?_
    have hob := hw.1
    replace hw := hw.2
    refine r_callV C (As := [.int 1]) (rest := []) (c_X12_bad G h a0 1 _ hw) yl_X12_bad (gm7 (List.mem_of_getElem? (i := 177) rfl) rfl) (gm7 (List.mem_of_getElem? (i := 179) rfl) rfl) (ci := 11) rfl (by decide) (gsel (List.mem_of_getElem? (i := 46) rfl)) hob (by decide) rfl (Nat.le_of_ble_eq_true rfl) dX12_takes_10 rfl (kI fun hv7 iv8 hw => ?_)
    exact r_zret C hr dX12_takes_13 hw.1 hw.2
theorem dX12_find_0 : decode cX12_find 0 = .ok (.iconst 0, 1) := by decide +kernel
theorem dX12_find_1 : decode cX12_find 1 = .ok (.istore_n 3, 1) := by decide +kernel
theorem dX12_find_2 : decode cX12_find 2 = .ok (.iload_n 3, 1) := by decide +kernel
theorem dX12_find_3 : decode cX12_find 3 = .ok (.iload_n 2, 1) := by decide +kernel
theorem dX12_find_4 : decode cX12_find 4 = .ok (.if_icmp .ge 27, 3) := by decide +kernel
theorem dX12_find_7 : decode cX12_find 7 = .ok (.aload_n 0, 1) := by decide +kernel
theorem dX12_find_8 : decode cX12_find 8 = .ok (.getfield 43, 3) := by decide +kernel
theorem dX12_find_11 : decode cX12_find 11 = .ok (.iload_n 1, 1) := by decide +kernel
theorem dX12_find_12 : decode cX12_find 12 = .ok (.iload_n 3, 1) := by decide +kernel
theorem dX12_find_13 : decode cX12_find 13 = .ok (.iadd, 1) := by decide +kernel
theorem dX12_find_14 : decode cX12_find 14 = .ok (.laload, 1) := by decide +kernel
theorem dX12_find_15 : decode cX12_find 15 = .ok (.aload_n 0, 1) := by decide +kernel
theorem dX12_find_16 : decode cX12_find 16 = .ok (.getfield 177, 3) := by decide +kernel
theorem dX12_find_19 : decode cX12_find 19 = .ok (.lcmp, 1) := by decide +kernel
theorem dX12_find_20 : decode cX12_find 20 = .ok (.ifCond .ne 5, 3) := by decide +kernel
theorem dX12_find_23 : decode cX12_find 23 = .ok (.iload_n 3, 1) := by decide +kernel
theorem dX12_find_24 : decode cX12_find 24 = .ok (.ireturn, 1) := by decide +kernel
theorem dX12_find_25 : decode cX12_find 25 = .ok (.iinc 3 1, 3) := by decide +kernel
theorem dX12_find_28 : decode cX12_find 28 = .ok (.goto (-26), 3) := by decide +kernel
theorem dX12_find_31 : decode cX12_find 31 = .ok (.iconst (-1), 1) := by decide +kernel
theorem dX12_find_32 : decode cX12_find 32 = .ok (.ireturn, 1) := by decide +kernel
def wb_X12_find_2 (K2 : AH → Nat → Int32 → Int32 → Int32 → Prop) (h : AH) (al0 : Nat) (xl1 : Int32) (xl2 : Int32) (xl3 : Int32)  (post : AH → Int32 → Prop) : Prop := (xl2 ≤ xl3 → (post h (-1))) ∧ (¬ xl2 ≤ xl3 → ((ob h al0 11) ∧ (∃ rv1, aP h al0 9 = some rv1 ∧ ((ob h rv1 14) ∧ ((vp_in (xl1 + xl3) (aL h rv1)) ∧ ((ob h al0 11) ∧ ((¬ (lg_cmp (aJ h rv1 (xl1 + xl3).toNatClampNeg) (aJ h al0 17)) = 0 → (∀ iv2 : Int32, iv2 = xl3 + 1 → (K2 h al0 xl1 xl2 iv2))) ∧ ((lg_cmp (aJ h rv1 (xl1 + xl3).toNatClampNeg) (aJ h al0 17)) = 0 → (post h xl3)))))))))
set_option maxRecDepth 100000 in
theorem tb_X12_find_2 {G : GG} {p : Program} {l : Launch} {e : Env} {R : Room} {s : State} {m : MethodId} {args : Array Value} {below : List Frame} {meth : Method} {c : Code} {n0 s0 : Nat} {post : AH → Int32 → Prop} (C : Cx G p R s m args meth c 4 cX12_find RX12 n0 s0 0 0) (hr : meth.sig.returnType = (some .int)) {K2 : AH → Nat → Int32 → Int32 → Int32 → Prop} (hK2 : ∀ (h : AH) (al0 : Nat) (xl1 : Int32) (xl2 : Int32) (xl3 : Int32), K2 h al0 xl1 xl2 xl3 → AW G p l e R s m args below meth c 4 (QM G (pI post) args s below n0 s0) 2 [(0, .ref (G.1 + al0)), (1, .int xl1), (2, .int xl2), (3, .int xl3)] [] h) {h : AH} {al0 : Nat} {xl1 : Int32} {xl2 : Int32} {xl3 : Int32}  (hw : wb_X12_find_2 K2 h al0 xl1 xl2 xl3 post) : AW G p l e R s m args below meth c 4 (QM G (pI post) args s below n0 s0) 2 [(0, .ref (G.1 + al0)), (1, .int xl1), (2, .int xl2), (3, .int xl3)] [] h := by
  unfold wb_X12_find_2 at hw
  refine r_iload_n C dX12_find_2 3 rfl ?_
  refine r_iload_n C dX12_find_3 2 rfl ?_
  refine r_icmp_ge C dX12_find_4 31 (by decide) (fun hc => ?_) (fun hc => ?_)
  · replace hw := hw.1 hc
    refine r_iconst (v := (-1)) C dX12_find_31 (by decide) ?_
    exact r_iret C hr dX12_find_32 hw
  · replace hw := hw.2 hc
    refine r_aload_n C dX12_find_7 0 rfl ?_
    have hob := hw.1
    obtain ⟨rv1, hp, hw⟩ := hw.2
    refine r_getP C fl_RX12_43_11 hob hp (fun _ _ _ => rfl) dX12_find_8 ?_
    refine r_iload_n C dX12_find_11 1 rfl ?_
    refine r_iload_n C dX12_find_12 3 rfl ?_
    refine r_iadd C dX12_find_13 ?_
    refine r_laload C hw.1 hw.2.1 dX12_find_14 ?_
    replace hw := hw.2.2
    refine r_aload_n C dX12_find_15 0 rfl ?_
    refine r_getJ C fl_RX12_177_11 hw.1 (fun _ _ _ => rfl) dX12_find_16 ?_
    replace hw := hw.2
    refine r_lcmp C dX12_find_19 ?_
    refine r_if_ne C dX12_find_20 25 (by decide) (fun hc => ?_) (fun hc => ?_)
    · replace hw := hw.1 hc
      obtain ⟨iv2, eiv2⟩ : ∃ q : Int32, q = xl3 + 1 := ⟨_, rfl⟩
      replace hw := hw iv2 eiv2
      refine r_iinc C dX12_find_25 3 rfl (by rw [eiv2]; rfl) [(3, .int iv2), (0, .ref (G.1 + al0)), (1, .int xl1), (2, .int xl2)] (by decide) rfl ?_
      refine r_goto C dX12_find_28 2 (by decide) ?_
      refine r_sub [1, 2, 3, 0] rfl ?_
      exact hK2 _ _ _ _ _ hw
    · replace hw := hw.2 hc
      refine r_iload_n C dX12_find_23 3 rfl ?_
      exact r_iret C hr dX12_find_24 hw
def wl_X12_find_2  (post : AH → Int32 → Prop) : Nat → AH → Nat → Int32 → Int32 → Int32 → Prop
  | 0 => fun _ _ _ _ _ => False
  | n + 1 => fun h al0 xl1 xl2 xl3 => wb_X12_find_2  (wl_X12_find_2  post n) h al0 xl1 xl2 xl3 post
theorem tl_X12_find_2 {G : GG} {p : Program} {l : Launch} {e : Env} {R : Room} {s : State} {m : MethodId} {args : Array Value} {below : List Frame} {meth : Method} {c : Code} {n0 s0 : Nat} {post : AH → Int32 → Prop} (C : Cx G p R s m args meth c 4 cX12_find RX12 n0 s0 0 0) (hr : meth.sig.returnType = (some .int))   : ∀ (n : Nat) (h : AH) (al0 : Nat) (xl1 : Int32) (xl2 : Int32) (xl3 : Int32), wl_X12_find_2  post n h al0 xl1 xl2 xl3 → AW G p l e R s m args below meth c 4 (QM G (pI post) args s below n0 s0) 2 [(0, .ref (G.1 + al0)), (1, .int xl1), (2, .int xl2), (3, .int xl3)] [] h := by
  intro n
  induction n with
  | zero => intro h al0 xl1 xl2 xl3 hw; exact hw.elim
  | succ n ih => intro h al0 xl1 xl2 xl3 hw; exact tb_X12_find_2 C hr  ih hw
def wp_X12_find (h : AH) (a0 : Nat) (x1 : Int32) (x2 : Int32) (post : AH → Int32 → Prop) : Prop := ∃ n, wl_X12_find_2  post n h a0 x1 x2 0
set_option maxRecDepth 100000 in
theorem c_X12_find (G : GG) (h : AH) (a0 : Nat) (x1 : Int32) (x2 : Int32) (post : AH → Int32 → Prop) (hw : wp_X12_find h a0 x1 x2 post) : MC G yX12_find cX12_find 4 (some .int) 0 0 h [.ref (G.1 + a0), .int x1, .int x2] (pI post) := by
  refine MC.of (lv := [(0, .ref (G.1 + a0)), (1, .int x1), (2, .int x2)]) (by decide) (Nat.le_of_ble_eq_true rfl) rfl fun p l e R s m args below meth c C hr hnm => ?_
  unfold wp_X12_find at hw
  refine r_iconst (v := 0) C dX12_find_0 (by decide) ?_
  refine r_istore_n C dX12_find_1 [(3, .int 0), (0, .ref (G.1 + a0)), (1, .int x1), (2, .int x2)] (by decide) rfl ?_
  refine r_sub [1, 2, 3, 0] rfl ?_
  obtain ⟨n, hw⟩ := hw
  exact tl_X12_find_2 C hr  n _ _ _ _ _ hw
theorem dX12_takesRaft_0 : decode cX12_takesRaft 0 = .ok (.aload_n 0, 1) := by decide +kernel
theorem dX12_takesRaft_1 : decode cX12_takesRaft 1 = .ok (.invokevirtual 203, 3) := by decide +kernel
theorem dX12_takesRaft_4 : decode cX12_takesRaft 4 = .ok (.ifCond .ne 9, 3) := by decide +kernel
theorem dX12_takesRaft_7 : decode cX12_takesRaft 7 = .ok (.aload_n 0, 1) := by decide +kernel
theorem dX12_takesRaft_8 : decode cX12_takesRaft 8 = .ok (.iconst 1, 1) := by decide +kernel
theorem dX12_takesRaft_9 : decode cX12_takesRaft 9 = .ok (.invokevirtual 190, 3) := by decide +kernel
theorem dX12_takesRaft_12 : decode cX12_takesRaft 12 = .ok (.ireturn, 1) := by decide +kernel
theorem dX12_takesRaft_13 : decode cX12_takesRaft 13 = .ok (.aload_n 0, 1) := by decide +kernel
theorem dX12_takesRaft_14 : decode cX12_takesRaft 14 = .ok (.aload_n 0, 1) := by decide +kernel
theorem dX12_takesRaft_15 : decode cX12_takesRaft 15 = .ok (.iload_n 1, 1) := by decide +kernel
theorem dX12_takesRaft_16 : decode cX12_takesRaft 16 = .ok (.iload_n 2, 1) := by decide +kernel
theorem dX12_takesRaft_17 : decode cX12_takesRaft 17 = .ok (.invokevirtual 207, 3) := by decide +kernel
theorem dX12_takesRaft_20 : decode cX12_takesRaft 20 = .ok (.putfield 200, 3) := by decide +kernel
theorem dX12_takesRaft_23 : decode cX12_takesRaft 23 = .ok (.aload_n 0, 1) := by decide +kernel
theorem dX12_takesRaft_24 : decode cX12_takesRaft 24 = .ok (.getfield 200, 3) := by decide +kernel
theorem dX12_takesRaft_27 : decode cX12_takesRaft 27 = .ok (.ifCond .lt 11, 3) := by decide +kernel
theorem dX12_takesRaft_30 : decode cX12_takesRaft 30 = .ok (.aload_n 0, 1) := by decide +kernel
theorem dX12_takesRaft_31 : decode cX12_takesRaft 31 = .ok (.getfield 200, 3) := by decide +kernel
theorem dX12_takesRaft_34 : decode cX12_takesRaft 34 = .ok (.iload_n 3, 1) := by decide +kernel
theorem dX12_takesRaft_35 : decode cX12_takesRaft 35 = .ok (.if_icmp .ne 9, 3) := by decide +kernel
theorem dX12_takesRaft_38 : decode cX12_takesRaft 38 = .ok (.aload_n 0, 1) := by decide +kernel
theorem dX12_takesRaft_39 : decode cX12_takesRaft 39 = .ok (.iconst 3, 1) := by decide +kernel
theorem dX12_takesRaft_40 : decode cX12_takesRaft 40 = .ok (.invokevirtual 190, 3) := by decide +kernel
theorem dX12_takesRaft_43 : decode cX12_takesRaft 43 = .ok (.ireturn, 1) := by decide +kernel
theorem dX12_takesRaft_44 : decode cX12_takesRaft 44 = .ok (.aload_n 0, 1) := by decide +kernel
theorem dX12_takesRaft_45 : decode cX12_takesRaft 45 = .ok (.invokevirtual 193, 3) := by decide +kernel
theorem dX12_takesRaft_48 : decode cX12_takesRaft 48 = .ok (.iconst 1, 1) := by decide +kernel
theorem dX12_takesRaft_49 : decode cX12_takesRaft 49 = .ok (.ireturn, 1) := by decide +kernel
def wb_X12_takesRaft_38  (h : AH) (al0 : Nat)  (post : AH → Int32 → Prop) : Prop := (ob h al0 11) ∧ wp_X12_bad h al0 3 (fun hv1 iv2 => (iv2 = 0 ∨ iv2 = 1) ∧ post hv1 iv2)
set_option maxRecDepth 100000 in
theorem tb_X12_takesRaft_38 {G : GG} {p : Program} {l : Launch} {e : Env} {R : Room} {s : State} {m : MethodId} {args : Array Value} {below : List Frame} {meth : Method} {c : Code} {n0 s0 : Nat} {post : AH → Int32 → Prop} (C : Cx G p R s m args meth c 4 cX12_takesRaft RX12 n0 s0 2 43) (hr : meth.sig.returnType = (some .boolean))   {h : AH} {al0 : Nat}  (hw : wb_X12_takesRaft_38  h al0 post) : AW G p l e R s m args below meth c 4 (QM G (pI post) args s below n0 s0) 38 [(0, .ref (G.1 + al0))] [] h := by
  unfold wb_X12_takesRaft_38 at hw
  refine r_aload_n C dX12_takesRaft_38 0 rfl ?_
  refine r_iconst (v := 3) C dX12_takesRaft_39 (by decide) ?_
  have hob := hw.1
  replace hw := hw.2
  refine r_callV C (As := [.int 3]) (rest := []) (c_X12_bad G h al0 3 _ hw) yl_X12_bad (gm7 (List.mem_of_getElem? (i := 177) rfl) rfl) (gm7 (List.mem_of_getElem? (i := 179) rfl) rfl) (ci := 11) rfl (by decide) (gsel (List.mem_of_getElem? (i := 46) rfl)) hob (by decide) rfl (Nat.le_of_ble_eq_true rfl) dX12_takesRaft_40 rfl (kI fun hv1 iv2 hw => ?_)
  exact r_zret C hr dX12_takesRaft_43 hw.1 hw.2
def wp_X12_takesRaft (h : AH) (a0 : Nat) (x1 : Int32) (x2 : Int32) (x3 : Int32) (post : AH → Int32 → Prop) : Prop := (ob h a0 11) ∧ wp_X12_isName h a0  (fun hv1 iv2 => (¬ iv2 = 0 → ((ob hv1 a0 11) ∧ wp_X12_find hv1 a0 x1 x2 (fun hv3 iv4 => (ob hv3 a0 11) ∧ (∀ hv5 : AH, hv5 = hI hv3 a0 18 iv4 → ((ob hv5 a0 11) ∧ (((aI hv5 a0 18) < 0 → (wb_X12_takesRaft_38  hv5 a0 post)) ∧ (¬ (aI hv5 a0 18) < 0 → ((ob hv5 a0 11) ∧ ((¬ (aI hv5 a0 18) = x3 → ((ob hv5 a0 11) ∧ wp_X12_next hv5 a0  (fun hv6  => ((1 : Int32) = 0 ∨ (1 : Int32) = 1) ∧ post hv6 1))) ∧ ((aI hv5 a0 18) = x3 → (wb_X12_takesRaft_38  hv5 a0 post))))))))))) ∧ (iv2 = 0 → ((ob hv1 a0 11) ∧ wp_X12_bad hv1 a0 1 (fun hv7 iv8 => (iv8 = 0 ∨ iv8 = 1) ∧ post hv7 iv8))))
set_option maxRecDepth 100000 in
theorem c_X12_takesRaft (G : GG) (h : AH) (a0 : Nat) (x1 : Int32) (x2 : Int32) (x3 : Int32) (post : AH → Int32 → Prop) (hw : wp_X12_takesRaft h a0 x1 x2 x3 post) : MC G yX12_takesRaft cX12_takesRaft 4 (some .boolean) 2 43 h [.ref (G.1 + a0), .int x1, .int x2, .int x3] (pI post) := by
  refine MC.of (lv := [(0, .ref (G.1 + a0)), (1, .int x1), (2, .int x2), (3, .int x3)]) (by decide) (Nat.le_of_ble_eq_true rfl) rfl fun p l e R s m args below meth c C hr hnm => ?_
  unfold wp_X12_takesRaft at hw
  refine r_aload_n C dX12_takesRaft_0 0 rfl ?_
  have hob := hw.1
  replace hw := hw.2
  refine r_callV C (As := []) (rest := []) (c_X12_isName G h a0  _ hw) yl_X12_isName (gm7 (List.mem_of_getElem? (i := 203) rfl) rfl) (gm7 (List.mem_of_getElem? (i := 205) rfl) rfl) (ci := 11) rfl (by decide) (gsel (List.mem_of_getElem? (i := 51) rfl)) hob (by decide) rfl (Nat.le_of_ble_eq_true rfl) dX12_takesRaft_1 rfl (kI fun hv1 iv2 hw => ?_)
  refine r_if_ne C dX12_takesRaft_4 13 (by decide) (fun hc => ?_) (fun hc => ?_)
  · replace hw := hw.1 hc
    refine r_aload_n C dX12_takesRaft_13 0 rfl ?_
    refine r_aload_n C dX12_takesRaft_14 0 rfl ?_
    refine r_iload_n C dX12_takesRaft_15 1 rfl ?_
    refine r_iload_n C dX12_takesRaft_16 2 rfl ?_
    have hob := hw.1
    replace hw := hw.2
    refine r_callV C (As := [.int x1, .int x2]) (rest := [.ref (G.1 + a0)]) (c_X12_find G hv1 a0 x1 x2 _ hw) yl_X12_find (gm7 (List.mem_of_getElem? (i := 207) rfl) rfl) (gm7 (List.mem_of_getElem? (i := 209) rfl) rfl) (ci := 11) rfl (by decide) (gsel (List.mem_of_getElem? (i := 52) rfl)) hob (by decide) rfl (Nat.le_of_ble_eq_true rfl) dX12_takesRaft_17 rfl (kI fun hv3 iv4 hw => ?_)
    refine r_putI C fp_RX12_200_11 hw.1 rfl dX12_takesRaft_20 ?_
    replace hw := hw.2
    refine r_toph fun hv5 ehv5 => ?_
    replace hw := hw hv5 ehv5
    refine r_aload_n C dX12_takesRaft_23 0 rfl ?_
    refine r_getI C fl_RX12_200_11 hw.1 (fun _ _ _ => rfl) dX12_takesRaft_24 ?_
    replace hw := hw.2
    refine r_if_lt C dX12_takesRaft_27 38 (by decide) (fun hc => ?_) (fun hc => ?_)
    · replace hw := hw.1 hc
      refine r_sub [0] rfl ?_
      exact tb_X12_takesRaft_38 C hr  hw
    · replace hw := hw.2 hc
      refine r_aload_n C dX12_takesRaft_30 0 rfl ?_
      refine r_getI C fl_RX12_200_11 hw.1 (fun _ _ _ => rfl) dX12_takesRaft_31 ?_
      replace hw := hw.2
      refine r_iload_n C dX12_takesRaft_34 3 rfl ?_
      refine r_icmp_ne C dX12_takesRaft_35 44 (by decide) (fun hc => ?_) (fun hc => ?_)
      · replace hw := hw.1 hc
        refine r_aload_n C dX12_takesRaft_44 0 rfl ?_
        have hob := hw.1
        replace hw := hw.2
        refine r_callV C (As := []) (rest := []) (c_X12_next G hv5 a0  _ hw) yl_X12_next (gm7 (List.mem_of_getElem? (i := 151) rfl) rfl) (gm7 (List.mem_of_getElem? (i := 153) rfl) rfl) (ci := 11) rfl (by decide) (gsel (List.mem_of_getElem? (i := 41) rfl)) hob (by decide) rfl (Nat.le_of_ble_eq_true rfl) dX12_takesRaft_45 rfl (kV fun hv6  hw => ?_)
        refine r_iconst (v := 1) C dX12_takesRaft_48 (by decide) ?_
        exact r_zret C hr dX12_takesRaft_49 hw.1 hw.2
      · replace hw := hw.2 hc
        refine r_sub [0] rfl ?_
        exact tb_X12_takesRaft_38 C hr  hw
  · replace hw := hw.2 hc
    refine r_aload_n C dX12_takesRaft_7 0 rfl ?_
    refine r_iconst (v := 1) C dX12_takesRaft_8 (by decide) ?_
    have hob := hw.1
    replace hw := hw.2
    refine r_callV C (As := [.int 1]) (rest := []) (c_X12_bad G hv1 a0 1 _ hw) yl_X12_bad (gm7 (List.mem_of_getElem? (i := 177) rfl) rfl) (gm7 (List.mem_of_getElem? (i := 179) rfl) rfl) (ci := 11) rfl (by decide) (gsel (List.mem_of_getElem? (i := 46) rfl)) hob (by decide) rfl (Nat.le_of_ble_eq_true rfl) dX12_takesRaft_9 rfl (kI fun hv7 iv8 hw => ?_)
    exact r_zret C hr dX12_takesRaft_12 hw.1 hw.2
theorem dX12_takesCell_0 : decode cX12_takesCell 0 = .ok (.aload_n 0, 1) := by decide +kernel
theorem dX12_takesCell_1 : decode cX12_takesCell 1 = .ok (.iconst 0, 1) := by decide +kernel
theorem dX12_takesCell_2 : decode cX12_takesCell 2 = .ok (.aload_n 0, 1) := by decide +kernel
theorem dX12_takesCell_3 : decode cX12_takesCell 3 = .ok (.getfield 37, 3) := by decide +kernel
theorem dX12_takesCell_6 : decode cX12_takesCell 6 = .ok (.iconst 0, 1) := by decide +kernel
theorem dX12_takesCell_7 : decode cX12_takesCell 7 = .ok (.iaload, 1) := by decide +kernel
theorem dX12_takesCell_8 : decode cX12_takesCell 8 = .ok (.iconst 1, 1) := by decide +kernel
theorem dX12_takesCell_9 : decode cX12_takesCell 9 = .ok (.isub, 1) := by decide +kernel
theorem dX12_takesCell_10 : decode cX12_takesCell 10 = .ok (.invokevirtual 211, 3) := by decide +kernel
theorem dX12_takesCell_13 : decode cX12_takesCell 13 = .ok (.ifCond .ne 5, 3) := by decide +kernel
theorem dX12_takesCell_16 : decode cX12_takesCell 16 = .ok (.iconst 0, 1) := by decide +kernel
theorem dX12_takesCell_17 : decode cX12_takesCell 17 = .ok (.ireturn, 1) := by decide +kernel
theorem dX12_takesCell_18 : decode cX12_takesCell 18 = .ok (.aload_n 0, 1) := by decide +kernel
theorem dX12_takesCell_19 : decode cX12_takesCell 19 = .ok (.aload_n 0, 1) := by decide +kernel
theorem dX12_takesCell_20 : decode cX12_takesCell 20 = .ok (.getfield 200, 3) := by decide +kernel
theorem dX12_takesCell_23 : decode cX12_takesCell 23 = .ok (.putfield 215, 3) := by decide +kernel
theorem dX12_takesCell_26 : decode cX12_takesCell 26 = .ok (.aload_n 0, 1) := by decide +kernel
theorem dX12_takesCell_27 : decode cX12_takesCell 27 = .ok (.iconst 0, 1) := by decide +kernel
theorem dX12_takesCell_28 : decode cX12_takesCell 28 = .ok (.aload_n 0, 1) := by decide +kernel
theorem dX12_takesCell_29 : decode cX12_takesCell 29 = .ok (.getfield 37, 3) := by decide +kernel
theorem dX12_takesCell_32 : decode cX12_takesCell 32 = .ok (.iconst 1, 1) := by decide +kernel
theorem dX12_takesCell_33 : decode cX12_takesCell 33 = .ok (.iaload, 1) := by decide +kernel
theorem dX12_takesCell_34 : decode cX12_takesCell 34 = .ok (.iconst 1, 1) := by decide +kernel
theorem dX12_takesCell_35 : decode cX12_takesCell 35 = .ok (.isub, 1) := by decide +kernel
theorem dX12_takesCell_36 : decode cX12_takesCell 36 = .ok (.invokevirtual 211, 3) := by decide +kernel
theorem dX12_takesCell_39 : decode cX12_takesCell 39 = .ok (.ifCond .ne 5, 3) := by decide +kernel
theorem dX12_takesCell_42 : decode cX12_takesCell 42 = .ok (.iconst 0, 1) := by decide +kernel
theorem dX12_takesCell_43 : decode cX12_takesCell 43 = .ok (.ireturn, 1) := by decide +kernel
theorem dX12_takesCell_44 : decode cX12_takesCell 44 = .ok (.aload_n 0, 1) := by decide +kernel
theorem dX12_takesCell_45 : decode cX12_takesCell 45 = .ok (.aload_n 0, 1) := by decide +kernel
theorem dX12_takesCell_46 : decode cX12_takesCell 46 = .ok (.getfield 200, 3) := by decide +kernel
theorem dX12_takesCell_49 : decode cX12_takesCell 49 = .ok (.putfield 218, 3) := by decide +kernel
theorem dX12_takesCell_52 : decode cX12_takesCell 52 = .ok (.iconst 1, 1) := by decide +kernel
theorem dX12_takesCell_53 : decode cX12_takesCell 53 = .ok (.ireturn, 1) := by decide +kernel
def wp_X12_takesCell (h : AH) (a0 : Nat) (post : AH → Int32 → Prop) : Prop := (ob h a0 11) ∧ (∃ rv1, aP h a0 7 = some rv1 ∧ ((ob h rv1 13) ∧ ((vp_in 0 (aL h rv1)) ∧ ((ob h a0 11) ∧ wp_X12_takes h a0 0 ((aI h rv1 (0 : Int32).toNatClampNeg) - (1 : Int32)) (fun hv2 iv3 => (¬ iv3 = 0 → ((ob hv2 a0 11) ∧ ((ob hv2 a0 11) ∧ (∀ hv4 : AH, hv4 = hI hv2 a0 19 (aI hv2 a0 18) → ((ob hv4 a0 11) ∧ (∃ rv5, aP hv4 a0 7 = some rv5 ∧ ((ob hv4 rv5 13) ∧ ((vp_in 1 (aL hv4 rv5)) ∧ ((ob hv4 a0 11) ∧ wp_X12_takes hv4 a0 0 ((aI hv4 rv5 (1 : Int32).toNatClampNeg) - (1 : Int32)) (fun hv6 iv7 => (¬ iv7 = 0 → ((ob hv6 a0 11) ∧ ((ob hv6 a0 11) ∧ (∀ hv8 : AH, hv8 = hI hv6 a0 20 (aI hv6 a0 18) → (((1 : Int32) = 0 ∨ (1 : Int32) = 1) ∧ post hv8 1))))) ∧ (iv7 = 0 → (((0 : Int32) = 0 ∨ (0 : Int32) = 1) ∧ post hv6 0)))))))))))) ∧ (iv3 = 0 → (((0 : Int32) = 0 ∨ (0 : Int32) = 1) ∧ post hv2 0)))))))
set_option maxRecDepth 100000 in
theorem c_X12_takesCell (G : GG) (h : AH) (a0 : Nat) (post : AH → Int32 → Prop) (hw : wp_X12_takesCell h a0 post) : MC G yX12_takesCell cX12_takesCell 1 (some .boolean) 3 65 h [.ref (G.1 + a0)] (pI post) := by
  refine MC.of (lv := [(0, .ref (G.1 + a0))]) (by decide) (Nat.le_of_ble_eq_true rfl) rfl fun p l e R s m args below meth c C hr hnm => ?_
  unfold wp_X12_takesCell at hw
  refine r_aload_n C dX12_takesCell_0 0 rfl ?_
  refine r_iconst (v := 0) C dX12_takesCell_1 (by decide) ?_
  refine r_aload_n C dX12_takesCell_2 0 rfl ?_
  have hob := hw.1
  obtain ⟨rv1, hp, hw⟩ := hw.2
  refine r_getP C fl_RX12_37_11 hob hp (fun _ _ _ => rfl) dX12_takesCell_3 ?_
  refine r_iconst (v := 0) C dX12_takesCell_6 (by decide) ?_
  refine r_iaload C hw.1 hw.2.1 dX12_takesCell_7 ?_
  replace hw := hw.2.2
  refine r_iconst (v := 1) C dX12_takesCell_8 (by decide) ?_
  refine r_isub C dX12_takesCell_9 ?_
  have hob := hw.1
  replace hw := hw.2
  refine r_callV C (As := [.int 0, .int ((aI h rv1 (0 : Int32).toNatClampNeg) - (1 : Int32))]) (rest := []) (c_X12_takes G h a0 0 ((aI h rv1 (0 : Int32).toNatClampNeg) - (1 : Int32)) _ hw) yl_X12_takes (gm7 (List.mem_of_getElem? (i := 195) rfl) rfl) (gm7 (List.mem_of_getElem? (i := 197) rfl) rfl) (ci := 11) rfl (by decide) (gsel (List.mem_of_getElem? (i := 49) rfl)) hob (by decide) rfl (Nat.le_of_ble_eq_true rfl) dX12_takesCell_10 rfl (kI fun hv2 iv3 hw => ?_)
  refine r_if_ne C dX12_takesCell_13 18 (by decide) (fun hc => ?_) (fun hc => ?_)
  · replace hw := hw.1 hc
    refine r_aload_n C dX12_takesCell_18 0 rfl ?_
    refine r_aload_n C dX12_takesCell_19 0 rfl ?_
    refine r_getI C fl_RX12_200_11 hw.1 (fun _ _ _ => rfl) dX12_takesCell_20 ?_
    replace hw := hw.2
    refine r_putI C fp_RX12_215_11 hw.1 rfl dX12_takesCell_23 ?_
    replace hw := hw.2
    refine r_toph fun hv4 ehv4 => ?_
    replace hw := hw hv4 ehv4
    refine r_aload_n C dX12_takesCell_26 0 rfl ?_
    refine r_iconst (v := 0) C dX12_takesCell_27 (by decide) ?_
    refine r_aload_n C dX12_takesCell_28 0 rfl ?_
    have hob := hw.1
    obtain ⟨rv5, hp, hw⟩ := hw.2
    refine r_getP C fl_RX12_37_11 hob hp (fun _ _ _ => rfl) dX12_takesCell_29 ?_
    refine r_iconst (v := 1) C dX12_takesCell_32 (by decide) ?_
    refine r_iaload C hw.1 hw.2.1 dX12_takesCell_33 ?_
    replace hw := hw.2.2
    refine r_iconst (v := 1) C dX12_takesCell_34 (by decide) ?_
    refine r_isub C dX12_takesCell_35 ?_
    have hob := hw.1
    replace hw := hw.2
    refine r_callV C (As := [.int 0, .int ((aI hv4 rv5 (1 : Int32).toNatClampNeg) - (1 : Int32))]) (rest := []) (c_X12_takes G hv4 a0 0 ((aI hv4 rv5 (1 : Int32).toNatClampNeg) - (1 : Int32)) _ hw) yl_X12_takes (gm7 (List.mem_of_getElem? (i := 195) rfl) rfl) (gm7 (List.mem_of_getElem? (i := 197) rfl) rfl) (ci := 11) rfl (by decide) (gsel (List.mem_of_getElem? (i := 49) rfl)) hob (by decide) rfl (Nat.le_of_ble_eq_true rfl) dX12_takesCell_36 rfl (kI fun hv6 iv7 hw => ?_)
    refine r_if_ne C dX12_takesCell_39 44 (by decide) (fun hc => ?_) (fun hc => ?_)
    · replace hw := hw.1 hc
      refine r_aload_n C dX12_takesCell_44 0 rfl ?_
      refine r_aload_n C dX12_takesCell_45 0 rfl ?_
      refine r_getI C fl_RX12_200_11 hw.1 (fun _ _ _ => rfl) dX12_takesCell_46 ?_
      replace hw := hw.2
      refine r_putI C fp_RX12_218_11 hw.1 rfl dX12_takesCell_49 ?_
      replace hw := hw.2
      refine r_toph fun hv8 ehv8 => ?_
      replace hw := hw hv8 ehv8
      refine r_iconst (v := 1) C dX12_takesCell_52 (by decide) ?_
      exact r_zret C hr dX12_takesCell_53 hw.1 hw.2
    · replace hw := hw.2 hc
      refine r_iconst (v := 0) C dX12_takesCell_42 (by decide) ?_
      exact r_zret C hr dX12_takesCell_43 hw.1 hw.2
  · replace hw := hw.2 hc
    refine r_iconst (v := 0) C dX12_takesCell_16 (by decide) ?_
    exact r_zret C hr dX12_takesCell_17 hw.1 hw.2
theorem dX12_readRow_0 : decode cX12_readRow 0 = .ok (.aload_n 0, 1) := by decide +kernel
theorem dX12_readRow_1 : decode cX12_readRow 1 = .ok (.getfield 37, 3) := by decide +kernel
theorem dX12_readRow_4 : decode cX12_readRow 4 = .ok (.iconst 1, 1) := by decide +kernel
theorem dX12_readRow_5 : decode cX12_readRow 5 = .ok (.iaload, 1) := by decide +kernel
theorem dX12_readRow_6 : decode cX12_readRow 6 = .ok (.istore_n 1, 1) := by decide +kernel
theorem dX12_readRow_7 : decode cX12_readRow 7 = .ok (.iload_n 1, 1) := by decide +kernel
theorem dX12_readRow_8 : decode cX12_readRow 8 = .ok (.bipush 8, 2) := by decide +kernel
theorem dX12_readRow_10 : decode cX12_readRow 10 = .ok (.if_icmp .ne 9, 3) := by decide +kernel
theorem dX12_readRow_13 : decode cX12_readRow 13 = .ok (.aload_n 0, 1) := by decide +kernel
theorem dX12_readRow_14 : decode cX12_readRow 14 = .ok (.iconst 4, 1) := by decide +kernel
theorem dX12_readRow_15 : decode cX12_readRow 15 = .ok (.invokevirtual 190, 3) := by decide +kernel
theorem dX12_readRow_18 : decode cX12_readRow 18 = .ok (.ireturn, 1) := by decide +kernel
theorem dX12_readRow_19 : decode cX12_readRow 19 = .ok (.aload_n 0, 1) := by decide +kernel
theorem dX12_readRow_20 : decode cX12_readRow 20 = .ok (.invokevirtual 193, 3) := by decide +kernel
theorem dX12_readRow_23 : decode cX12_readRow 23 = .ok (.aload_n 0, 1) := by decide +kernel
theorem dX12_readRow_24 : decode cX12_readRow 24 = .ok (.getfield 164, 3) := by decide +kernel
theorem dX12_readRow_27 : decode cX12_readRow 27 = .ok (.iconst 2, 1) := by decide +kernel
theorem dX12_readRow_28 : decode cX12_readRow 28 = .ok (.if_icmp .eq 9, 3) := by decide +kernel
theorem dX12_readRow_31 : decode cX12_readRow 31 = .ok (.aload_n 0, 1) := by decide +kernel
theorem dX12_readRow_32 : decode cX12_readRow 32 = .ok (.iconst 1, 1) := by decide +kernel
theorem dX12_readRow_33 : decode cX12_readRow 33 = .ok (.invokevirtual 190, 3) := by decide +kernel
theorem dX12_readRow_36 : decode cX12_readRow 36 = .ok (.ireturn, 1) := by decide +kernel
theorem dX12_readRow_37 : decode cX12_readRow 37 = .ok (.iload_n 1, 1) := by decide +kernel
theorem dX12_readRow_38 : decode cX12_readRow 38 = .ok (.ifCond .le 22, 3) := by decide +kernel
theorem dX12_readRow_41 : decode cX12_readRow 41 = .ok (.aload_n 0, 1) := by decide +kernel
theorem dX12_readRow_42 : decode cX12_readRow 42 = .ok (.getfield 161, 3) := by decide +kernel
theorem dX12_readRow_45 : decode cX12_readRow 45 = .ok (.aload_n 0, 1) := by decide +kernel
theorem dX12_readRow_46 : decode cX12_readRow 46 = .ok (.getfield 37, 3) := by decide +kernel
theorem dX12_readRow_49 : decode cX12_readRow 49 = .ok (.iconst 0, 1) := by decide +kernel
theorem dX12_readRow_50 : decode cX12_readRow 50 = .ok (.iaload, 1) := by decide +kernel
theorem dX12_readRow_51 : decode cX12_readRow 51 = .ok (.if_icmp .eq 9, 3) := by decide +kernel
theorem dX12_readRow_54 : decode cX12_readRow 54 = .ok (.aload_n 0, 1) := by decide +kernel
theorem dX12_readRow_55 : decode cX12_readRow 55 = .ok (.iconst 2, 1) := by decide +kernel
theorem dX12_readRow_56 : decode cX12_readRow 56 = .ok (.invokevirtual 190, 3) := by decide +kernel
theorem dX12_readRow_59 : decode cX12_readRow 59 = .ok (.ireturn, 1) := by decide +kernel
theorem dX12_readRow_60 : decode cX12_readRow 60 = .ok (.aload_n 0, 1) := by decide +kernel
theorem dX12_readRow_61 : decode cX12_readRow 61 = .ok (.getfield 37, 3) := by decide +kernel
theorem dX12_readRow_64 : decode cX12_readRow 64 = .ok (.iconst 0, 1) := by decide +kernel
theorem dX12_readRow_65 : decode cX12_readRow 65 = .ok (.aload_n 0, 1) := by decide +kernel
theorem dX12_readRow_66 : decode cX12_readRow 66 = .ok (.getfield 161, 3) := by decide +kernel
theorem dX12_readRow_69 : decode cX12_readRow 69 = .ok (.iastore, 1) := by decide +kernel
theorem dX12_readRow_70 : decode cX12_readRow 70 = .ok (.iconst 0, 1) := by decide +kernel
theorem dX12_readRow_71 : decode cX12_readRow 71 = .ok (.istore_n 2, 1) := by decide +kernel
theorem dX12_readRow_72 : decode cX12_readRow 72 = .ok (.iload_n 2, 1) := by decide +kernel
theorem dX12_readRow_73 : decode cX12_readRow 73 = .ok (.aload_n 0, 1) := by decide +kernel
theorem dX12_readRow_74 : decode cX12_readRow 74 = .ok (.getfield 161, 3) := by decide +kernel
theorem dX12_readRow_77 : decode cX12_readRow 77 = .ok (.if_icmp .ge 36, 3) := by decide +kernel
theorem dX12_readRow_80 : decode cX12_readRow 80 = .ok (.aload_n 0, 1) := by decide +kernel
theorem dX12_readRow_81 : decode cX12_readRow 81 = .ok (.getfield 37, 3) := by decide +kernel
theorem dX12_readRow_84 : decode cX12_readRow 84 = .ok (.bipush 11, 2) := by decide +kernel
theorem dX12_readRow_86 : decode cX12_readRow 86 = .ok (.bipush 8, 2) := by decide +kernel
theorem dX12_readRow_88 : decode cX12_readRow 88 = .ok (.iload_n 1, 1) := by decide +kernel
theorem dX12_readRow_89 : decode cX12_readRow 89 = .ok (.imul, 1) := by decide +kernel
theorem dX12_readRow_90 : decode cX12_readRow 90 = .ok (.iadd, 1) := by decide +kernel
theorem dX12_readRow_91 : decode cX12_readRow 91 = .ok (.iload_n 2, 1) := by decide +kernel
theorem dX12_readRow_92 : decode cX12_readRow 92 = .ok (.iadd, 1) := by decide +kernel
theorem dX12_readRow_93 : decode cX12_readRow 93 = .ok (.aload_n 0, 1) := by decide +kernel
theorem dX12_readRow_94 : decode cX12_readRow 94 = .ok (.aload_n 0, 1) := by decide +kernel
theorem dX12_readRow_95 : decode cX12_readRow 95 = .ok (.getfield 158, 3) := by decide +kernel
theorem dX12_readRow_98 : decode cX12_readRow 98 = .ok (.iload_n 2, 1) := by decide +kernel
theorem dX12_readRow_99 : decode cX12_readRow 99 = .ok (.iadd, 1) := by decide +kernel
theorem dX12_readRow_100 : decode cX12_readRow 100 = .ok (.invokevirtual 249, 3) := by decide +kernel
theorem dX12_readRow_103 : decode cX12_readRow 103 = .ok (.bipush 48, 2) := by decide +kernel
theorem dX12_readRow_105 : decode cX12_readRow 105 = .ok (.isub, 1) := by decide +kernel
theorem dX12_readRow_106 : decode cX12_readRow 106 = .ok (.iastore, 1) := by decide +kernel
theorem dX12_readRow_107 : decode cX12_readRow 107 = .ok (.iinc 2 1, 3) := by decide +kernel
theorem dX12_readRow_110 : decode cX12_readRow 110 = .ok (.goto (-38), 3) := by decide +kernel
theorem dX12_readRow_113 : decode cX12_readRow 113 = .ok (.aload_n 0, 1) := by decide +kernel
theorem dX12_readRow_114 : decode cX12_readRow 114 = .ok (.getfield 37, 3) := by decide +kernel
theorem dX12_readRow_117 : decode cX12_readRow 117 = .ok (.iconst 1, 1) := by decide +kernel
theorem dX12_readRow_118 : decode cX12_readRow 118 = .ok (.dup2, 1) := by decide +kernel
theorem dX12_readRow_119 : decode cX12_readRow 119 = .ok (.iaload, 1) := by decide +kernel
theorem dX12_readRow_120 : decode cX12_readRow 120 = .ok (.iconst 1, 1) := by decide +kernel
theorem dX12_readRow_121 : decode cX12_readRow 121 = .ok (.iadd, 1) := by decide +kernel
theorem dX12_readRow_122 : decode cX12_readRow 122 = .ok (.iastore, 1) := by decide +kernel
theorem dX12_readRow_123 : decode cX12_readRow 123 = .ok (.aload_n 0, 1) := by decide +kernel
theorem dX12_readRow_124 : decode cX12_readRow 124 = .ok (.invokevirtual 193, 3) := by decide +kernel
theorem dX12_readRow_127 : decode cX12_readRow 127 = .ok (.iconst 1, 1) := by decide +kernel
theorem dX12_readRow_128 : decode cX12_readRow 128 = .ok (.ireturn, 1) := by decide +kernel
def wb_X12_readRow_72 (K72 : AH → Nat → Int32 → Int32 → Prop) (h : AH) (al0 : Nat) (xl1 : Int32) (xl2 : Int32)  (post : AH → Int32 → Prop) : Prop := (ob h al0 11) ∧ (((aI h al0 13) ≤ xl2 → ((ob h al0 11) ∧ (∃ rv1, aP h al0 7 = some rv1 ∧ ((ob h rv1 13) ∧ ((vp_in 1 (aL h rv1)) ∧ ((ob h rv1 13) ∧ ((vp_in 1 (aL h rv1)) ∧ (∀ hv2 : AH, hv2 = hI h rv1 (1 : Int32).toNatClampNeg ((aI h rv1 (1 : Int32).toNatClampNeg) + (1 : Int32)) → ((ob hv2 al0 11) ∧ wp_X12_next hv2 al0  (fun hv3  => ((1 : Int32) = 0 ∨ (1 : Int32) = 1) ∧ post hv3 1)))))))))) ∧ (¬ (aI h al0 13) ≤ xl2 → ((ob h al0 11) ∧ (∃ rv4, aP h al0 7 = some rv4 ∧ ((ob h al0 11) ∧ ((ob h al0 11) ∧ wp_X12_octet h al0 ((aI h al0 12) + xl2) (fun hv5 iv6 => (ob hv5 rv4 13) ∧ ((vp_in (((11 : Int32) + ((8 : Int32) * xl1)) + xl2) (aL hv5 rv4)) ∧ (∀ hv7 : AH, hv7 = hI hv5 rv4 (((11 : Int32) + ((8 : Int32) * xl1)) + xl2).toNatClampNeg (iv6 - (48 : Int32)) → (∀ iv8 : Int32, iv8 = xl2 + 1 → (K72 hv7 al0 xl1 iv8)))))))))))
set_option maxRecDepth 100000 in
theorem tb_X12_readRow_72 {G : GG} {p : Program} {l : Launch} {e : Env} {R : Room} {s : State} {m : MethodId} {args : Array Value} {below : List Frame} {meth : Method} {c : Code} {n0 s0 : Nat} {post : AH → Int32 → Prop} (C : Cx G p R s m args meth c 3 cX12_readRow RX12 n0 s0 2 43) (hr : meth.sig.returnType = (some .boolean)) {K72 : AH → Nat → Int32 → Int32 → Prop} (hK72 : ∀ (h : AH) (al0 : Nat) (xl1 : Int32) (xl2 : Int32), K72 h al0 xl1 xl2 → AW G p l e R s m args below meth c 3 (QM G (pI post) args s below n0 s0) 72 [(0, .ref (G.1 + al0)), (1, .int xl1), (2, .int xl2)] [] h) {h : AH} {al0 : Nat} {xl1 : Int32} {xl2 : Int32}  (hw : wb_X12_readRow_72 K72 h al0 xl1 xl2 post) : AW G p l e R s m args below meth c 3 (QM G (pI post) args s below n0 s0) 72 [(0, .ref (G.1 + al0)), (1, .int xl1), (2, .int xl2)] [] h := by
  unfold wb_X12_readRow_72 at hw
  refine r_iload_n C dX12_readRow_72 2 rfl ?_
  refine r_aload_n C dX12_readRow_73 0 rfl ?_
  refine r_getI C fl_RX12_161_11 hw.1 (fun _ _ _ => rfl) dX12_readRow_74 ?_
  replace hw := hw.2
  refine r_icmp_ge C dX12_readRow_77 113 (by decide) (fun hc => ?_) (fun hc => ?_)
  · replace hw := hw.1 hc
    refine r_aload_n C dX12_readRow_113 0 rfl ?_
    have hob := hw.1
    obtain ⟨rv1, hp, hw⟩ := hw.2
    refine r_getP C fl_RX12_37_11 hob hp (fun _ _ _ => rfl) dX12_readRow_114 ?_
    refine r_iconst (v := 1) C dX12_readRow_117 (by decide) ?_
    refine r_dup2 C dX12_readRow_118 rfl rfl ?_
    refine r_iaload C hw.1 hw.2.1 dX12_readRow_119 ?_
    replace hw := hw.2.2
    refine r_iconst (v := 1) C dX12_readRow_120 (by decide) ?_
    refine r_iadd C dX12_readRow_121 ?_
    refine r_iastore C hw.1 hw.2.1 dX12_readRow_122 ?_
    replace hw := hw.2.2
    refine r_toph fun hv2 ehv2 => ?_
    replace hw := hw hv2 ehv2
    refine r_aload_n C dX12_readRow_123 0 rfl ?_
    have hob := hw.1
    replace hw := hw.2
    refine r_callV C (As := []) (rest := []) (c_X12_next G hv2 al0  _ hw) yl_X12_next (gm7 (List.mem_of_getElem? (i := 151) rfl) rfl) (gm7 (List.mem_of_getElem? (i := 153) rfl) rfl) (ci := 11) rfl (by decide) (gsel (List.mem_of_getElem? (i := 41) rfl)) hob (by decide) rfl (Nat.le_of_ble_eq_true rfl) dX12_readRow_124 rfl (kV fun hv3  hw => ?_)
    refine r_iconst (v := 1) C dX12_readRow_127 (by decide) ?_
    exact r_zret C hr dX12_readRow_128 hw.1 hw.2
  · replace hw := hw.2 hc
    refine r_aload_n C dX12_readRow_80 0 rfl ?_
    have hob := hw.1
    obtain ⟨rv4, hp, hw⟩ := hw.2
    refine r_getP C fl_RX12_37_11 hob hp (fun _ _ _ => rfl) dX12_readRow_81 ?_
    refine r_bipush (v := 11) C dX12_readRow_84 (by decide) ?_
    refine r_bipush (v := 8) C dX12_readRow_86 (by decide) ?_
    refine r_iload_n C dX12_readRow_88 1 rfl ?_
    refine r_imul C dX12_readRow_89 ?_
    refine r_iadd C dX12_readRow_90 ?_
    refine r_iload_n C dX12_readRow_91 2 rfl ?_
    refine r_iadd C dX12_readRow_92 ?_
    refine r_aload_n C dX12_readRow_93 0 rfl ?_
    refine r_aload_n C dX12_readRow_94 0 rfl ?_
    refine r_getI C fl_RX12_158_11 hw.1 (fun _ _ _ => rfl) dX12_readRow_95 ?_
    replace hw := hw.2
    refine r_iload_n C dX12_readRow_98 2 rfl ?_
    refine r_iadd C dX12_readRow_99 ?_
    have hob := hw.1
    replace hw := hw.2
    refine r_callV C (As := [.int ((aI h al0 12) + xl2)]) (rest := [.int (((11 : Int32) + ((8 : Int32) * xl1)) + xl2), .ref (G.1 + rv4)]) (c_X12_octet G h al0 ((aI h al0 12) + xl2) _ hw) yl_X12_octet (gm7 (List.mem_of_getElem? (i := 181) rfl) rfl) (gm7 (List.mem_of_getElem? (i := 183) rfl) rfl) (ci := 11) rfl (by decide) (gsel (List.mem_of_getElem? (i := 47) rfl)) hob (by decide) rfl (Nat.le_of_ble_eq_true rfl) dX12_readRow_100 rfl (kI fun hv5 iv6 hw => ?_)
    refine r_bipush (v := 48) C dX12_readRow_103 (by decide) ?_
    refine r_isub C dX12_readRow_105 ?_
    refine r_iastore C hw.1 hw.2.1 dX12_readRow_106 ?_
    replace hw := hw.2.2
    refine r_toph fun hv7 ehv7 => ?_
    replace hw := hw hv7 ehv7
    obtain ⟨iv8, eiv8⟩ : ∃ q : Int32, q = xl2 + 1 := ⟨_, rfl⟩
    replace hw := hw iv8 eiv8
    refine r_iinc C dX12_readRow_107 2 rfl (by rw [eiv8]; rfl) [(2, .int iv8), (0, .ref (G.1 + al0)), (1, .int xl1)] (by decide) rfl ?_
    refine r_goto C dX12_readRow_110 72 (by decide) ?_
    refine r_sub [1, 2, 0] rfl ?_
    exact hK72 _ _ _ _ hw
def wl_X12_readRow_72  (post : AH → Int32 → Prop) : Nat → AH → Nat → Int32 → Int32 → Prop
  | 0 => fun _ _ _ _ => False
  | n + 1 => fun h al0 xl1 xl2 => wb_X12_readRow_72  (wl_X12_readRow_72  post n) h al0 xl1 xl2 post
theorem tl_X12_readRow_72 {G : GG} {p : Program} {l : Launch} {e : Env} {R : Room} {s : State} {m : MethodId} {args : Array Value} {below : List Frame} {meth : Method} {c : Code} {n0 s0 : Nat} {post : AH → Int32 → Prop} (C : Cx G p R s m args meth c 3 cX12_readRow RX12 n0 s0 2 43) (hr : meth.sig.returnType = (some .boolean))   : ∀ (n : Nat) (h : AH) (al0 : Nat) (xl1 : Int32) (xl2 : Int32), wl_X12_readRow_72  post n h al0 xl1 xl2 → AW G p l e R s m args below meth c 3 (QM G (pI post) args s below n0 s0) 72 [(0, .ref (G.1 + al0)), (1, .int xl1), (2, .int xl2)] [] h := by
  intro n
  induction n with
  | zero => intro h al0 xl1 xl2 hw; exact hw.elim
  | succ n ih => intro h al0 xl1 xl2 hw; exact tb_X12_readRow_72 C hr  ih hw
def wb_X12_readRow_60  (h : AH) (al0 : Nat) (xl1 : Int32)  (post : AH → Int32 → Prop) : Prop := (ob h al0 11) ∧ (∃ rv1, aP h al0 7 = some rv1 ∧ ((ob h al0 11) ∧ ((ob h rv1 13) ∧ ((vp_in 0 (aL h rv1)) ∧ (∀ hv2 : AH, hv2 = hI h rv1 (0 : Int32).toNatClampNeg (aI h al0 13) → (∃ n, wl_X12_readRow_72  post n hv2 al0 xl1 0))))))
set_option maxRecDepth 100000 in
theorem tb_X12_readRow_60 {G : GG} {p : Program} {l : Launch} {e : Env} {R : Room} {s : State} {m : MethodId} {args : Array Value} {below : List Frame} {meth : Method} {c : Code} {n0 s0 : Nat} {post : AH → Int32 → Prop} (C : Cx G p R s m args meth c 3 cX12_readRow RX12 n0 s0 2 43) (hr : meth.sig.returnType = (some .boolean))   {h : AH} {al0 : Nat} {xl1 : Int32}  (hw : wb_X12_readRow_60  h al0 xl1 post) : AW G p l e R s m args below meth c 3 (QM G (pI post) args s below n0 s0) 60 [(0, .ref (G.1 + al0)), (1, .int xl1)] [] h := by
  unfold wb_X12_readRow_60 at hw
  refine r_aload_n C dX12_readRow_60 0 rfl ?_
  have hob := hw.1
  obtain ⟨rv1, hp, hw⟩ := hw.2
  refine r_getP C fl_RX12_37_11 hob hp (fun _ _ _ => rfl) dX12_readRow_61 ?_
  refine r_iconst (v := 0) C dX12_readRow_64 (by decide) ?_
  refine r_aload_n C dX12_readRow_65 0 rfl ?_
  refine r_getI C fl_RX12_161_11 hw.1 (fun _ _ _ => rfl) dX12_readRow_66 ?_
  replace hw := hw.2
  refine r_iastore C hw.1 hw.2.1 dX12_readRow_69 ?_
  replace hw := hw.2.2
  refine r_toph fun hv2 ehv2 => ?_
  replace hw := hw hv2 ehv2
  refine r_iconst (v := 0) C dX12_readRow_70 (by decide) ?_
  refine r_istore_n C dX12_readRow_71 [(2, .int 0), (0, .ref (G.1 + al0)), (1, .int xl1)] (by decide) rfl ?_
  refine r_sub [1, 2, 0] rfl ?_
  obtain ⟨n, hw⟩ := hw
  exact tl_X12_readRow_72 C hr  n _ _ _ _ hw
def wp_X12_readRow (h : AH) (a0 : Nat) (post : AH → Int32 → Prop) : Prop := (ob h a0 11) ∧ (∃ rv1, aP h a0 7 = some rv1 ∧ ((ob h rv1 13) ∧ ((vp_in 1 (aL h rv1)) ∧ (∀ iv2 : Int32, iv2 = aI h rv1 (1 : Int32).toNatClampNeg → ((¬ iv2 = 8 → ((ob h a0 11) ∧ wp_X12_next h a0  (fun hv3  => (ob hv3 a0 11) ∧ (((aI hv3 a0 11) = 2 → ((iv2 ≤ 0 → (wb_X12_readRow_60  hv3 a0 iv2 post)) ∧ (¬ iv2 ≤ 0 → ((ob hv3 a0 11) ∧ ((ob hv3 a0 11) ∧ (∃ rv4, aP hv3 a0 7 = some rv4 ∧ ((ob hv3 rv4 13) ∧ ((vp_in 0 (aL hv3 rv4)) ∧ (((aI hv3 a0 13) = (aI hv3 rv4 (0 : Int32).toNatClampNeg) → (wb_X12_readRow_60  hv3 a0 iv2 post)) ∧ (¬ (aI hv3 a0 13) = (aI hv3 rv4 (0 : Int32).toNatClampNeg) → ((ob hv3 a0 11) ∧ wp_X12_bad hv3 a0 2 (fun hv5 iv6 => (iv6 = 0 ∨ iv6 = 1) ∧ post hv5 iv6)))))))))))) ∧ (¬ (aI hv3 a0 11) = 2 → ((ob hv3 a0 11) ∧ wp_X12_bad hv3 a0 1 (fun hv7 iv8 => (iv8 = 0 ∨ iv8 = 1) ∧ post hv7 iv8))))))) ∧ (iv2 = 8 → ((ob h a0 11) ∧ wp_X12_bad h a0 4 (fun hv9 iv10 => (iv10 = 0 ∨ iv10 = 1) ∧ post hv9 iv10))))))))
set_option maxRecDepth 100000 in
theorem c_X12_readRow (G : GG) (h : AH) (a0 : Nat) (post : AH → Int32 → Prop) (hw : wp_X12_readRow h a0 post) : MC G yX12_readRow cX12_readRow 3 (some .boolean) 2 43 h [.ref (G.1 + a0)] (pI post) := by
  refine MC.of (lv := [(0, .ref (G.1 + a0))]) (by decide) (Nat.le_of_ble_eq_true rfl) rfl fun p l e R s m args below meth c C hr hnm => ?_
  unfold wp_X12_readRow at hw
  refine r_aload_n C dX12_readRow_0 0 rfl ?_
  have hob := hw.1
  obtain ⟨rv1, hp, hw⟩ := hw.2
  refine r_getP C fl_RX12_37_11 hob hp (fun _ _ _ => rfl) dX12_readRow_1 ?_
  refine r_iconst (v := 1) C dX12_readRow_4 (by decide) ?_
  refine r_iaload C hw.1 hw.2.1 dX12_readRow_5 ?_
  replace hw := hw.2.2
  refine r_topi fun iv2 eiv2 => ?_
  replace hw := hw iv2 eiv2
  refine r_istore_n C dX12_readRow_6 [(1, .int iv2), (0, .ref (G.1 + a0))] (by decide) rfl ?_
  refine r_iload_n C dX12_readRow_7 0 rfl ?_
  refine r_bipush (v := 8) C dX12_readRow_8 (by decide) ?_
  refine r_icmp_ne C dX12_readRow_10 19 (by decide) (fun hc => ?_) (fun hc => ?_)
  · replace hw := hw.1 hc
    refine r_aload_n C dX12_readRow_19 1 rfl ?_
    have hob := hw.1
    replace hw := hw.2
    refine r_callV C (As := []) (rest := []) (c_X12_next G h a0  _ hw) yl_X12_next (gm7 (List.mem_of_getElem? (i := 151) rfl) rfl) (gm7 (List.mem_of_getElem? (i := 153) rfl) rfl) (ci := 11) rfl (by decide) (gsel (List.mem_of_getElem? (i := 41) rfl)) hob (by decide) rfl (Nat.le_of_ble_eq_true rfl) dX12_readRow_20 rfl (kV fun hv3  hw => ?_)
    refine r_aload_n C dX12_readRow_23 1 rfl ?_
    refine r_getI C fl_RX12_164_11 hw.1 (fun _ _ _ => rfl) dX12_readRow_24 ?_
    replace hw := hw.2
    refine r_iconst (v := 2) C dX12_readRow_27 (by decide) ?_
    refine r_icmp_eq C dX12_readRow_28 37 (by decide) (fun hc => ?_) (fun hc => ?_)
    · replace hw := hw.1 hc
      refine r_iload_n C dX12_readRow_37 0 rfl ?_
      refine r_if_le C dX12_readRow_38 60 (by decide) (fun hc => ?_) (fun hc => ?_)
      · replace hw := hw.1 hc
        refine r_sub [1, 0] rfl ?_
        exact tb_X12_readRow_60 C hr  hw
      · replace hw := hw.2 hc
        refine r_aload_n C dX12_readRow_41 1 rfl ?_
        refine r_getI C fl_RX12_161_11 hw.1 (fun _ _ _ => rfl) dX12_readRow_42 ?_
        replace hw := hw.2
        refine r_aload_n C dX12_readRow_45 1 rfl ?_
        have hob := hw.1
        obtain ⟨rv4, hp, hw⟩ := hw.2
        refine r_getP C fl_RX12_37_11 hob hp (fun _ _ _ => rfl) dX12_readRow_46 ?_
        refine r_iconst (v := 0) C dX12_readRow_49 (by decide) ?_
        refine r_iaload C hw.1 hw.2.1 dX12_readRow_50 ?_
        replace hw := hw.2.2
        refine r_icmp_eq C dX12_readRow_51 60 (by decide) (fun hc => ?_) (fun hc => ?_)
        · replace hw := hw.1 hc
          refine r_sub [1, 0] rfl ?_
          exact tb_X12_readRow_60 C hr  hw
        · replace hw := hw.2 hc
          refine r_aload_n C dX12_readRow_54 1 rfl ?_
          refine r_iconst (v := 2) C dX12_readRow_55 (by decide) ?_
          have hob := hw.1
          replace hw := hw.2
          refine r_callV C (As := [.int 2]) (rest := []) (c_X12_bad G hv3 a0 2 _ hw) yl_X12_bad (gm7 (List.mem_of_getElem? (i := 177) rfl) rfl) (gm7 (List.mem_of_getElem? (i := 179) rfl) rfl) (ci := 11) rfl (by decide) (gsel (List.mem_of_getElem? (i := 46) rfl)) hob (by decide) rfl (Nat.le_of_ble_eq_true rfl) dX12_readRow_56 rfl (kI fun hv5 iv6 hw => ?_)
          exact r_zret C hr dX12_readRow_59 hw.1 hw.2
    · replace hw := hw.2 hc
      refine r_aload_n C dX12_readRow_31 1 rfl ?_
      refine r_iconst (v := 1) C dX12_readRow_32 (by decide) ?_
      have hob := hw.1
      replace hw := hw.2
      refine r_callV C (As := [.int 1]) (rest := []) (c_X12_bad G hv3 a0 1 _ hw) yl_X12_bad (gm7 (List.mem_of_getElem? (i := 177) rfl) rfl) (gm7 (List.mem_of_getElem? (i := 179) rfl) rfl) (ci := 11) rfl (by decide) (gsel (List.mem_of_getElem? (i := 46) rfl)) hob (by decide) rfl (Nat.le_of_ble_eq_true rfl) dX12_readRow_33 rfl (kI fun hv7 iv8 hw => ?_)
      exact r_zret C hr dX12_readRow_36 hw.1 hw.2
  · replace hw := hw.2 hc
    refine r_aload_n C dX12_readRow_13 1 rfl ?_
    refine r_iconst (v := 4) C dX12_readRow_14 (by decide) ?_
    have hob := hw.1
    replace hw := hw.2
    refine r_callV C (As := [.int 4]) (rest := []) (c_X12_bad G h a0 4 _ hw) yl_X12_bad (gm7 (List.mem_of_getElem? (i := 177) rfl) rfl) (gm7 (List.mem_of_getElem? (i := 179) rfl) rfl) (ci := 11) rfl (by decide) (gsel (List.mem_of_getElem? (i := 46) rfl)) hob (by decide) rfl (Nat.le_of_ble_eq_true rfl) dX12_readRow_15 rfl (kI fun hv9 iv10 hw => ?_)
    exact r_zret C hr dX12_readRow_18 hw.1 hw.2
theorem dX12_readTide_0 : decode cX12_readTide 0 = .ok (.aload_n 0, 1) := by decide +kernel
theorem dX12_readTide_1 : decode cX12_readTide 1 = .ok (.invokevirtual 193, 3) := by decide +kernel
theorem dX12_readTide_4 : decode cX12_readTide 4 = .ok (.aload_n 0, 1) := by decide +kernel
theorem dX12_readTide_5 : decode cX12_readTide 5 = .ok (.getfield 164, 3) := by decide +kernel
theorem dX12_readTide_8 : decode cX12_readTide 8 = .ok (.iconst 2, 1) := by decide +kernel
theorem dX12_readTide_9 : decode cX12_readTide 9 = .ok (.if_icmp .eq 9, 3) := by decide +kernel
theorem dX12_readTide_12 : decode cX12_readTide 12 = .ok (.aload_n 0, 1) := by decide +kernel
theorem dX12_readTide_13 : decode cX12_readTide 13 = .ok (.iconst 1, 1) := by decide +kernel
theorem dX12_readTide_14 : decode cX12_readTide 14 = .ok (.invokevirtual 190, 3) := by decide +kernel
theorem dX12_readTide_17 : decode cX12_readTide 17 = .ok (.ireturn, 1) := by decide +kernel
theorem dX12_readTide_18 : decode cX12_readTide 18 = .ok (.aload_n 0, 1) := by decide +kernel
theorem dX12_readTide_19 : decode cX12_readTide 19 = .ok (.getfield 174, 3) := by decide +kernel
theorem dX12_readTide_22 : decode cX12_readTide 22 = .ok (.iconst 0, 1) := by decide +kernel
theorem dX12_readTide_23 : decode cX12_readTide 23 = .ok (.bipush 23, 2) := by decide +kernel
theorem dX12_readTide_25 : decode cX12_readTide 25 = .ok (.invokestatic 196, 3) := by decide +kernel
theorem dX12_readTide_28 : decode cX12_readTide 28 = .ok (.ifCond .ne 9, 3) := by decide +kernel
theorem dX12_readTide_31 : decode cX12_readTide 31 = .ok (.aload_n 0, 1) := by decide +kernel
theorem dX12_readTide_32 : decode cX12_readTide 32 = .ok (.iconst 2, 1) := by decide +kernel
theorem dX12_readTide_33 : decode cX12_readTide 33 = .ok (.invokevirtual 190, 3) := by decide +kernel
theorem dX12_readTide_36 : decode cX12_readTide 36 = .ok (.ireturn, 1) := by decide +kernel
theorem dX12_readTide_37 : decode cX12_readTide 37 = .ok (.aload_n 0, 1) := by decide +kernel
theorem dX12_readTide_38 : decode cX12_readTide 38 = .ok (.getfield 253, 3) := by decide +kernel
theorem dX12_readTide_41 : decode cX12_readTide 41 = .ok (.aload_n 0, 1) := by decide +kernel
theorem dX12_readTide_42 : decode cX12_readTide 42 = .ok (.getfield 174, 3) := by decide +kernel
theorem dX12_readTide_45 : decode cX12_readTide 45 = .ok (.invokestatic 256, 3) := by decide +kernel
theorem dX12_readTide_48 : decode cX12_readTide 48 = .ok (.ifCond .eq 9, 3) := by decide +kernel
theorem dX12_readTide_51 : decode cX12_readTide 51 = .ok (.aload_n 0, 1) := by decide +kernel
theorem dX12_readTide_52 : decode cX12_readTide 52 = .ok (.iconst 3, 1) := by decide +kernel
theorem dX12_readTide_53 : decode cX12_readTide 53 = .ok (.invokevirtual 190, 3) := by decide +kernel
theorem dX12_readTide_56 : decode cX12_readTide 56 = .ok (.ireturn, 1) := by decide +kernel
theorem dX12_readTide_57 : decode cX12_readTide 57 = .ok (.aload_n 0, 1) := by decide +kernel
theorem dX12_readTide_58 : decode cX12_readTide 58 = .ok (.dup, 1) := by decide +kernel
theorem dX12_readTide_59 : decode cX12_readTide 59 = .ok (.getfield 253, 3) := by decide +kernel
theorem dX12_readTide_62 : decode cX12_readTide 62 = .ok (.iconst 1, 1) := by decide +kernel
theorem dX12_readTide_63 : decode cX12_readTide 63 = .ok (.aload_n 0, 1) := by decide +kernel
theorem dX12_readTide_64 : decode cX12_readTide 64 = .ok (.getfield 174, 3) := by decide +kernel
theorem dX12_readTide_67 : decode cX12_readTide 67 = .ok (.ishl, 1) := by decide +kernel
theorem dX12_readTide_68 : decode cX12_readTide 68 = .ok (.ior, 1) := by decide +kernel
theorem dX12_readTide_69 : decode cX12_readTide 69 = .ok (.putfield 253, 3) := by decide +kernel
theorem dX12_readTide_72 : decode cX12_readTide 72 = .ok (.bipush 75, 2) := by decide +kernel
theorem dX12_readTide_74 : decode cX12_readTide 74 = .ok (.aload_n 0, 1) := by decide +kernel
theorem dX12_readTide_75 : decode cX12_readTide 75 = .ok (.getfield 174, 3) := by decide +kernel
theorem dX12_readTide_78 : decode cX12_readTide 78 = .ok (.iadd, 1) := by decide +kernel
theorem dX12_readTide_79 : decode cX12_readTide 79 = .ok (.istore_n 1, 1) := by decide +kernel
theorem dX12_readTide_80 : decode cX12_readTide 80 = .ok (.aload_n 0, 1) := by decide +kernel
theorem dX12_readTide_81 : decode cX12_readTide 81 = .ok (.invokevirtual 193, 3) := by decide +kernel
theorem dX12_readTide_84 : decode cX12_readTide 84 = .ok (.aload_n 0, 1) := by decide +kernel
theorem dX12_readTide_85 : decode cX12_readTide 85 = .ok (.iconst 0, 1) := by decide +kernel
theorem dX12_readTide_86 : decode cX12_readTide 86 = .ok (.bipush 9, 2) := by decide +kernel
theorem dX12_readTide_88 : decode cX12_readTide 88 = .ok (.invokevirtual 211, 3) := by decide +kernel
theorem dX12_readTide_91 : decode cX12_readTide 91 = .ok (.ifCond .ne 5, 3) := by decide +kernel
theorem dX12_readTide_94 : decode cX12_readTide 94 = .ok (.iconst 0, 1) := by decide +kernel
theorem dX12_readTide_95 : decode cX12_readTide 95 = .ok (.ireturn, 1) := by decide +kernel
theorem dX12_readTide_96 : decode cX12_readTide 96 = .ok (.aload_n 0, 1) := by decide +kernel
theorem dX12_readTide_97 : decode cX12_readTide 97 = .ok (.getfield 37, 3) := by decide +kernel
theorem dX12_readTide_100 : decode cX12_readTide 100 = .ok (.iload_n 1, 1) := by decide +kernel
theorem dX12_readTide_101 : decode cX12_readTide 101 = .ok (.aload_n 0, 1) := by decide +kernel
theorem dX12_readTide_102 : decode cX12_readTide 102 = .ok (.getfield 200, 3) := by decide +kernel
theorem dX12_readTide_105 : decode cX12_readTide 105 = .ok (.iastore, 1) := by decide +kernel
theorem dX12_readTide_106 : decode cX12_readTide 106 = .ok (.iconst 1, 1) := by decide +kernel
theorem dX12_readTide_107 : decode cX12_readTide 107 = .ok (.ireturn, 1) := by decide +kernel
def wp_X12_readTide (h : AH) (a0 : Nat) (post : AH → Int32 → Prop) : Prop := (ob h a0 11) ∧ wp_X12_next h a0  (fun hv1  => (ob hv1 a0 11) ∧ (((aI hv1 a0 11) = 2 → ((ob hv1 a0 11) ∧ (wp_X12_isIn hv1 (aI hv1 a0 14) 0 23 (fun hv2 iv3 => (¬ iv3 = 0 → ((ob hv2 a0 11) ∧ ((ob hv2 a0 11) ∧ (wp_X12_has hv2 (aI hv2 a0 22) (aI hv2 a0 14) (fun hv4 iv5 => (iv5 = 0 → ((ob hv4 a0 11) ∧ ((ob hv4 a0 11) ∧ ((ob hv4 a0 11) ∧ (∀ hv6 : AH, hv6 = hI hv4 a0 22 ((aI hv4 a0 22) ||| ((1 : Int32) <<< ((aI hv4 a0 14) &&& 31))) → ((ob hv6 a0 11) ∧ (∀ iv7 : Int32, iv7 = (75 : Int32) + (aI hv6 a0 14) → ((ob hv6 a0 11) ∧ wp_X12_next hv6 a0  (fun hv8  => (ob hv8 a0 11) ∧ wp_X12_takes hv8 a0 0 9 (fun hv9 iv10 => (¬ iv10 = 0 → ((ob hv9 a0 11) ∧ (∃ rv11, aP hv9 a0 7 = some rv11 ∧ ((ob hv9 a0 11) ∧ ((ob hv9 rv11 13) ∧ ((vp_in iv7 (aL hv9 rv11)) ∧ (∀ hv12 : AH, hv12 = hI hv9 rv11 iv7.toNatClampNeg (aI hv9 a0 18) → (((1 : Int32) = 0 ∨ (1 : Int32) = 1) ∧ post hv12 1)))))))) ∧ (iv10 = 0 → (((0 : Int32) = 0 ∨ (0 : Int32) = 1) ∧ post hv9 0)))))))))))) ∧ (¬ iv5 = 0 → ((ob hv4 a0 11) ∧ wp_X12_bad hv4 a0 3 (fun hv13 iv14 => (iv14 = 0 ∨ iv14 = 1) ∧ post hv13 iv14)))))))) ∧ (iv3 = 0 → ((ob hv2 a0 11) ∧ wp_X12_bad hv2 a0 2 (fun hv15 iv16 => (iv16 = 0 ∨ iv16 = 1) ∧ post hv15 iv16))))))) ∧ (¬ (aI hv1 a0 11) = 2 → ((ob hv1 a0 11) ∧ wp_X12_bad hv1 a0 1 (fun hv17 iv18 => (iv18 = 0 ∨ iv18 = 1) ∧ post hv17 iv18)))))
set_option maxRecDepth 100000 in
theorem c_X12_readTide (G : GG) (h : AH) (a0 : Nat) (post : AH → Int32 → Prop) (hw : wp_X12_readTide h a0 post) : MC G yX12_readTide cX12_readTide 2 (some .boolean) 3 65 h [.ref (G.1 + a0)] (pI post) := by
  refine MC.of (lv := [(0, .ref (G.1 + a0))]) (by decide) (Nat.le_of_ble_eq_true rfl) rfl fun p l e R s m args below meth c C hr hnm => ?_
  unfold wp_X12_readTide at hw
  refine r_aload_n C dX12_readTide_0 0 rfl ?_
  have hob := hw.1
  replace hw := hw.2
  refine r_callV C (As := []) (rest := []) (c_X12_next G h a0  _ hw) yl_X12_next (gm7 (List.mem_of_getElem? (i := 151) rfl) rfl) (gm7 (List.mem_of_getElem? (i := 153) rfl) rfl) (ci := 11) rfl (by decide) (gsel (List.mem_of_getElem? (i := 41) rfl)) hob (by decide) rfl (Nat.le_of_ble_eq_true rfl) dX12_readTide_1 rfl (kV fun hv1  hw => ?_)
  refine r_aload_n C dX12_readTide_4 0 rfl ?_
  refine r_getI C fl_RX12_164_11 hw.1 (fun _ _ _ => rfl) dX12_readTide_5 ?_
  replace hw := hw.2
  refine r_iconst (v := 2) C dX12_readTide_8 (by decide) ?_
  refine r_icmp_eq C dX12_readTide_9 18 (by decide) (fun hc => ?_) (fun hc => ?_)
  · replace hw := hw.1 hc
    refine r_aload_n C dX12_readTide_18 0 rfl ?_
    refine r_getI C fl_RX12_174_11 hw.1 (fun _ _ _ => rfl) dX12_readTide_19 ?_
    replace hw := hw.2
    refine r_iconst (v := 0) C dX12_readTide_22 (by decide) ?_
    refine r_bipush (v := 23) C dX12_readTide_23 (by decide) ?_
    refine r_callS C (As := [.int (aI hv1 a0 14), .int 0, .int 23]) (rest := []) (c_X12_isIn G hv1 (aI hv1 a0 14) 0 23 _ hw) yl_X12_isIn (gm7 (List.mem_of_getElem? (i := 189) rfl) rfl) (gm7 (List.mem_of_getElem? (i := 190) rfl) rfl) (by decide) rfl (Nat.le_of_ble_eq_true rfl) dX12_readTide_25 rfl (kI fun hv2 iv3 hw => ?_)
    refine r_if_ne C dX12_readTide_28 37 (by decide) (fun hc => ?_) (fun hc => ?_)
    · replace hw := hw.1 hc
      refine r_aload_n C dX12_readTide_37 0 rfl ?_
      refine r_getI C fl_RX12_253_11 hw.1 (fun _ _ _ => rfl) dX12_readTide_38 ?_
      replace hw := hw.2
      refine r_aload_n C dX12_readTide_41 0 rfl ?_
      refine r_getI C fl_RX12_174_11 hw.1 (fun _ _ _ => rfl) dX12_readTide_42 ?_
      replace hw := hw.2
      refine r_callS C (As := [.int (aI hv2 a0 22), .int (aI hv2 a0 14)]) (rest := []) (c_X12_has G hv2 (aI hv2 a0 22) (aI hv2 a0 14) _ hw) yl_X12_has (gm7 (List.mem_of_getElem? (i := 192) rfl) rfl) (gm7 (List.mem_of_getElem? (i := 193) rfl) rfl) (by decide) rfl (Nat.le_of_ble_eq_true rfl) dX12_readTide_45 rfl (kI fun hv4 iv5 hw => ?_)
      refine r_if_eq C dX12_readTide_48 57 (by decide) (fun hc => ?_) (fun hc => ?_)
      · replace hw := hw.1 hc
        refine r_aload_n C dX12_readTide_57 0 rfl ?_
        refine r_dup C dX12_readTide_58 rfl ?_
        refine r_getI C fl_RX12_253_11 hw.1 (fun _ _ _ => rfl) dX12_readTide_59 ?_
        replace hw := hw.2
        refine r_iconst (v := 1) C dX12_readTide_62 (by decide) ?_
        refine r_aload_n C dX12_readTide_63 0 rfl ?_
        refine r_getI C fl_RX12_174_11 hw.1 (fun _ _ _ => rfl) dX12_readTide_64 ?_
        replace hw := hw.2
        refine r_ishl C dX12_readTide_67 ?_
        refine r_ior C dX12_readTide_68 ?_
        refine r_putI C fp_RX12_253_11 hw.1 rfl dX12_readTide_69 ?_
        replace hw := hw.2
        refine r_toph fun hv6 ehv6 => ?_
        replace hw := hw hv6 ehv6
        refine r_bipush (v := 75) C dX12_readTide_72 (by decide) ?_
        refine r_aload_n C dX12_readTide_74 0 rfl ?_
        refine r_getI C fl_RX12_174_11 hw.1 (fun _ _ _ => rfl) dX12_readTide_75 ?_
        replace hw := hw.2
        refine r_iadd C dX12_readTide_78 ?_
        refine r_topi fun iv7 eiv7 => ?_
        replace hw := hw iv7 eiv7
        refine r_istore_n C dX12_readTide_79 [(1, .int iv7), (0, .ref (G.1 + a0))] (by decide) rfl ?_
        refine r_aload_n C dX12_readTide_80 1 rfl ?_
        have hob := hw.1
        replace hw := hw.2
        refine r_callV C (As := []) (rest := []) (c_X12_next G hv6 a0  _ hw) yl_X12_next (gm7 (List.mem_of_getElem? (i := 151) rfl) rfl) (gm7 (List.mem_of_getElem? (i := 153) rfl) rfl) (ci := 11) rfl (by decide) (gsel (List.mem_of_getElem? (i := 41) rfl)) hob (by decide) rfl (Nat.le_of_ble_eq_true rfl) dX12_readTide_81 rfl (kV fun hv8  hw => ?_)
        refine r_aload_n C dX12_readTide_84 1 rfl ?_
        refine r_iconst (v := 0) C dX12_readTide_85 (by decide) ?_
        refine r_bipush (v := 9) C dX12_readTide_86 (by decide) ?_
        have hob := hw.1
        replace hw := hw.2
        refine r_callV C (As := [.int 0, .int 9]) (rest := []) (c_X12_takes G hv8 a0 0 9 _ hw) yl_X12_takes (gm7 (List.mem_of_getElem? (i := 195) rfl) rfl) (gm7 (List.mem_of_getElem? (i := 197) rfl) rfl) (ci := 11) rfl (by decide) (gsel (List.mem_of_getElem? (i := 49) rfl)) hob (by decide) rfl (Nat.le_of_ble_eq_true rfl) dX12_readTide_88 rfl (kI fun hv9 iv10 hw => ?_)
        refine r_if_ne C dX12_readTide_91 96 (by decide) (fun hc => ?_) (fun hc => ?_)
        · replace hw := hw.1 hc
          refine r_aload_n C dX12_readTide_96 1 rfl ?_
          have hob := hw.1
          obtain ⟨rv11, hp, hw⟩ := hw.2
          refine r_getP C fl_RX12_37_11 hob hp (fun _ _ _ => rfl) dX12_readTide_97 ?_
          refine r_iload_n C dX12_readTide_100 0 rfl ?_
          refine r_aload_n C dX12_readTide_101 1 rfl ?_
          refine r_getI C fl_RX12_200_11 hw.1 (fun _ _ _ => rfl) dX12_readTide_102 ?_
          replace hw := hw.2
          refine r_iastore C hw.1 hw.2.1 dX12_readTide_105 ?_
          replace hw := hw.2.2
          refine r_toph fun hv12 ehv12 => ?_
          replace hw := hw hv12 ehv12
          refine r_iconst (v := 1) C dX12_readTide_106 (by decide) ?_
          exact r_zret C hr dX12_readTide_107 hw.1 hw.2
        · replace hw := hw.2 hc
          refine r_iconst (v := 0) C dX12_readTide_94 (by decide) ?_
          exact r_zret C hr dX12_readTide_95 hw.1 hw.2
      · replace hw := hw.2 hc
        refine r_aload_n C dX12_readTide_51 0 rfl ?_
        refine r_iconst (v := 3) C dX12_readTide_52 (by decide) ?_
        have hob := hw.1
        replace hw := hw.2
        refine r_callV C (As := [.int 3]) (rest := []) (c_X12_bad G hv4 a0 3 _ hw) yl_X12_bad (gm7 (List.mem_of_getElem? (i := 177) rfl) rfl) (gm7 (List.mem_of_getElem? (i := 179) rfl) rfl) (ci := 11) rfl (by decide) (gsel (List.mem_of_getElem? (i := 46) rfl)) hob (by decide) rfl (Nat.le_of_ble_eq_true rfl) dX12_readTide_53 rfl (kI fun hv13 iv14 hw => ?_)
        exact r_zret C hr dX12_readTide_56 hw.1 hw.2
    · replace hw := hw.2 hc
      refine r_aload_n C dX12_readTide_31 0 rfl ?_
      refine r_iconst (v := 2) C dX12_readTide_32 (by decide) ?_
      have hob := hw.1
      replace hw := hw.2
      refine r_callV C (As := [.int 2]) (rest := []) (c_X12_bad G hv2 a0 2 _ hw) yl_X12_bad (gm7 (List.mem_of_getElem? (i := 177) rfl) rfl) (gm7 (List.mem_of_getElem? (i := 179) rfl) rfl) (ci := 11) rfl (by decide) (gsel (List.mem_of_getElem? (i := 46) rfl)) hob (by decide) rfl (Nat.le_of_ble_eq_true rfl) dX12_readTide_33 rfl (kI fun hv15 iv16 hw => ?_)
      exact r_zret C hr dX12_readTide_36 hw.1 hw.2
  · replace hw := hw.2 hc
    refine r_aload_n C dX12_readTide_12 0 rfl ?_
    refine r_iconst (v := 1) C dX12_readTide_13 (by decide) ?_
    have hob := hw.1
    replace hw := hw.2
    refine r_callV C (As := [.int 1]) (rest := []) (c_X12_bad G hv1 a0 1 _ hw) yl_X12_bad (gm7 (List.mem_of_getElem? (i := 177) rfl) rfl) (gm7 (List.mem_of_getElem? (i := 179) rfl) rfl) (ci := 11) rfl (by decide) (gsel (List.mem_of_getElem? (i := 46) rfl)) hob (by decide) rfl (Nat.le_of_ble_eq_true rfl) dX12_readTide_14 rfl (kI fun hv17 iv18 hw => ?_)
    exact r_zret C hr dX12_readTide_17 hw.1 hw.2
