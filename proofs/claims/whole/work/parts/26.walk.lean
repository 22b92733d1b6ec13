theorem fl_RX12_53_11 : FL RX12 53 11 25 := ⟨RX12, RX12, TX12, 53, ci11, by decide, (gm7 (List.mem_of_getElem? (i := 7) rfl) rfl), Or.inl rfl⟩
theorem fl_RX12_50_11 : FL RX12 50 11 24 := ⟨RX12, RX12, TX12, 53, ci11, by decide, (gm7 (List.mem_of_getElem? (i := 6) rfl) rfl), Or.inl rfl⟩
theorem yl_X12_wide : YL yX12_wide cX12_wide 2 (some .int) 1 := ⟨(gm7 (List.mem_of_getElem? (i := 230) rfl) rfl), (gm1 (List.mem_of_getElem? (i := 18) rfl) rfl), by decide, by decide, by decide +kernel⟩
theorem yl_X12_between : YL yX12_between cX12_between 4 (some .int) 4 := ⟨(gm7 (List.mem_of_getElem? (i := 233) rfl) rfl), (gm1 (List.mem_of_getElem? (i := 18) rfl) rfl), by decide, by decide, by decide +kernel⟩
theorem yl_X12_high : YL yX12_high cX12_high 2 (some .int) 1 := ⟨(gm7 (List.mem_of_getElem? (i := 237) rfl) rfl), (gm1 (List.mem_of_getElem? (i := 18) rfl) rfl), by decide, by decide, by decide +kernel⟩
theorem yl_X12_takesRaft : YL yX12_takesRaft cX12_takesRaft 4 (some .boolean) 3 := ⟨(gm7 (List.mem_of_getElem? (i := 222) rfl) rfl), (gm1 (List.mem_of_getElem? (i := 18) rfl) rfl), by decide, by decide, by decide +kernel⟩
theorem yl_X12_gapOf : YL yX12_gapOf cX12_gapOf 5 (some .int) 2 := ⟨(gm7 (List.mem_of_getElem? (i := 226) rfl) rfl), (gm1 (List.mem_of_getElem? (i := 18) rfl) rfl), by decide, by decide, by decide +kernel⟩
theorem fl_RX12_265_11 : FL RX12 265 11 23 := ⟨RX12, RX12, TX12, 53, ci11, by decide, (gm7 (List.mem_of_getElem? (i := 5) rfl) rfl), Or.inl rfl⟩
theorem fp_RX12_265_11 : FP RX12 265 11 23 := ⟨RX12, RX12, TX12, 53, ci11, by decide, (gm7 (List.mem_of_getElem? (i := 5) rfl) rfl), Or.inl rfl, rfl⟩
theorem yl_X12_takesCell : YL yX12_takesCell cX12_takesCell 1 (some .boolean) 0 := ⟨(gm8 (List.mem_of_getElem? (i := 9) rfl) rfl), (gm1 (List.mem_of_getElem? (i := 18) rfl) rfl), by decide, by decide, by decide +kernel⟩
theorem fl_RX12_215_11 : FL RX12 215 11 19 := ⟨RX12, RX12, TX12, 53, ci11, by decide, (gm7 (List.mem_of_getElem? (i := 1) rfl) rfl), Or.inl rfl⟩
theorem fl_RX12_218_11 : FL RX12 218 11 20 := ⟨RX12, RX12, TX12, 53, ci11, by decide, (gm7 (List.mem_of_getElem? (i := 2) rfl) rfl), Or.inl rfl⟩
theorem yl_X12_isWord : YL yX12_isWord cX12_isWord 3 (some .boolean) 1 := ⟨(gm7 (List.mem_of_getElem? (i := 172) rfl) rfl), (gm1 (List.mem_of_getElem? (i := 18) rfl) rfl), by decide, by decide, by decide +kernel⟩
theorem yl_X12_side : YL yX12_side cX12_side 1 (some .int) 0 := ⟨(gm8 (List.mem_of_getElem? (i := 17) rfl) rfl), (gm1 (List.mem_of_getElem? (i := 18) rfl) rfl), by decide, by decide, by decide +kernel⟩
theorem yl_X12_readWant : YL yX12_readWant cX12_readWant 4 (some .boolean) 1 := ⟨(gm8 (List.mem_of_getElem? (i := 13) rfl) rfl), (gm1 (List.mem_of_getElem? (i := 18) rfl) rfl), by decide, by decide, by decide +kernel⟩
theorem yl_X12_readSquare : YL yX12_readSquare cX12_readSquare 4 (some .boolean) 0 := ⟨(gm8 (List.mem_of_getElem? (i := 5) rfl) rfl), (gm1 (List.mem_of_getElem? (i := 18) rfl) rfl), by decide, by decide, by decide +kernel⟩
theorem yl_X12_readMoor : YL yX12_readMoor cX12_readMoor 2 (some .boolean) 0 := ⟨(gm8 (List.mem_of_getElem? (i := 1) rfl) rfl), (gm1 (List.mem_of_getElem? (i := 18) rfl) rfl), by decide, by decide, by decide +kernel⟩
theorem yl_X12_readRope : YL yX12_readRope cX12_readRope 8 (some .boolean) 0 := ⟨(gm7 (List.mem_of_getElem? (i := 218) rfl) rfl), (gm1 (List.mem_of_getElem? (i := 18) rfl) rfl), by decide, by decide, by decide +kernel⟩
theorem yl_X12_readPole : YL yX12_readPole cX12_readPole 4 (some .boolean) 0 := ⟨(gm7 (List.mem_of_getElem? (i := 214) rfl) rfl), (gm1 (List.mem_of_getElem? (i := 18) rfl) rfl), by decide, by decide, by decide +kernel⟩
theorem yl_X12_readRaft : YL yX12_readRaft cX12_readRaft 7 (some .boolean) 0 := ⟨(gm7 (List.mem_of_getElem? (i := 202) rfl) rfl), (gm1 (List.mem_of_getElem? (i := 18) rfl) rfl), by decide, by decide, by decide +kernel⟩
theorem yl_X12_readTide : YL yX12_readTide cX12_readTide 2 (some .boolean) 0 := ⟨(gm7 (List.mem_of_getElem? (i := 188) rfl) rfl), (gm1 (List.mem_of_getElem? (i := 18) rfl) rfl), by decide, by decide, by decide +kernel⟩
theorem yl_X12_readRow : YL yX12_readRow cX12_readRow 3 (some .boolean) 0 := ⟨(gm7 (List.mem_of_getElem? (i := 176) rfl) rfl), (gm1 (List.mem_of_getElem? (i := 18) rfl) rfl), by decide, by decide, by decide +kernel⟩
theorem yl_X12_taken : YL yX12_taken cX12_taken 2 none 1 := ⟨(gm7 (List.mem_of_getElem? (i := 150) rfl) rfl), (gm1 (List.mem_of_getElem? (i := 18) rfl) rfl), by decide, by decide, by decide +kernel⟩
theorem fp_RX12_278_11 : FP RX12 278 11 21 := ⟨RX12, RX12, TX12, 53, ci11, by decide, (gm7 (List.mem_of_getElem? (i := 3) rfl) rfl), Or.inl rfl, rfl⟩
theorem yl_X12_line : YL yX12_line cX12_line 1 (some .boolean) 0 := ⟨(gm7 (List.mem_of_getElem? (i := 168) rfl) rfl), (gm1 (List.mem_of_getElem? (i := 18) rfl) rfl), by decide, by decide, by decide +kernel⟩
theorem yl_X12_sign : YL yX12_sign cX12_sign 2 (some .boolean) 1 := ⟨(gm8 (List.mem_of_getElem? (i := 21) rfl) rfl), (gm1 (List.mem_of_getElem? (i := 18) rfl) rfl), by decide, by decide, by decide +kernel⟩
theorem fl_RX12_278_11 : FL RX12 278 11 21 := ⟨RX12, RX12, TX12, 53, ci11, by decide, (gm7 (List.mem_of_getElem? (i := 3) rfl) rfl), Or.inl rfl⟩
theorem fl_RX12_184_11 : FL RX12 184 11 16 := ⟨RX12, RX12, TX12, 53, ci11, by decide, (gm6 (List.mem_of_getElem? (i := 238) rfl) rfl), Or.inl rfl⟩
theorem fl_RX12_181_11 : FL RX12 181 11 15 := ⟨RX12, RX12, TX12, 53, ci11, by decide, (gm6 (List.mem_of_getElem? (i := 237) rfl) rfl), Or.inl rfl⟩
theorem dX12_readRaft_0 : decode cX12_readRaft 0 = .ok (.aload_n 0, 1) := by decide +kernel
theorem dX12_readRaft_1 : decode cX12_readRaft 1 = .ok (.getfield 37, 3) := by decide +kernel
theorem dX12_readRaft_4 : decode cX12_readRaft 4 = .ok (.iconst 2, 1) := by decide +kernel
theorem dX12_readRaft_5 : decode cX12_readRaft 5 = .ok (.iaload, 1) := by decide +kernel
theorem dX12_readRaft_6 : decode cX12_readRaft 6 = .ok (.istore_n 1, 1) := by decide +kernel
theorem dX12_readRaft_7 : decode cX12_readRaft 7 = .ok (.iload_n 1, 1) := by decide +kernel
theorem dX12_readRaft_8 : decode cX12_readRaft 8 = .ok (.bipush 8, 2) := by decide +kernel
theorem dX12_readRaft_10 : decode cX12_readRaft 10 = .ok (.if_icmp .ne 9, 3) := by decide +kernel
theorem dX12_readRaft_13 : decode cX12_readRaft 13 = .ok (.aload_n 0, 1) := by decide +kernel
theorem dX12_readRaft_14 : decode cX12_readRaft 14 = .ok (.iconst 4, 1) := by decide +kernel
theorem dX12_readRaft_15 : decode cX12_readRaft 15 = .ok (.invokevirtual 190, 3) := by decide +kernel
theorem dX12_readRaft_18 : decode cX12_readRaft 18 = .ok (.ireturn, 1) := by decide +kernel
theorem dX12_readRaft_19 : decode cX12_readRaft 19 = .ok (.aload_n 0, 1) := by decide +kernel
theorem dX12_readRaft_20 : decode cX12_readRaft 20 = .ok (.invokevirtual 193, 3) := by decide +kernel
theorem dX12_readRaft_23 : decode cX12_readRaft 23 = .ok (.aload_n 0, 1) := by decide +kernel
theorem dX12_readRaft_24 : decode cX12_readRaft 24 = .ok (.invokevirtual 203, 3) := by decide +kernel
theorem dX12_readRaft_27 : decode cX12_readRaft 27 = .ok (.ifCond .ne 9, 3) := by decide +kernel
theorem dX12_readRaft_30 : decode cX12_readRaft 30 = .ok (.aload_n 0, 1) := by decide +kernel
theorem dX12_readRaft_31 : decode cX12_readRaft 31 = .ok (.iconst 1, 1) := by decide +kernel
theorem dX12_readRaft_32 : decode cX12_readRaft 32 = .ok (.invokevirtual 190, 3) := by decide +kernel
theorem dX12_readRaft_35 : decode cX12_readRaft 35 = .ok (.ireturn, 1) := by decide +kernel
theorem dX12_readRaft_36 : decode cX12_readRaft 36 = .ok (.aload_n 0, 1) := by decide +kernel
theorem dX12_readRaft_37 : decode cX12_readRaft 37 = .ok (.bipush 8, 2) := by decide +kernel
theorem dX12_readRaft_39 : decode cX12_readRaft 39 = .ok (.iload_n 1, 1) := by decide +kernel
theorem dX12_readRaft_40 : decode cX12_readRaft 40 = .ok (.invokevirtual 207, 3) := by decide +kernel
theorem dX12_readRaft_43 : decode cX12_readRaft 43 = .ok (.ifCond .lt 9, 3) := by decide +kernel
theorem dX12_readRaft_46 : decode cX12_readRaft 46 = .ok (.aload_n 0, 1) := by decide +kernel
theorem dX12_readRaft_47 : decode cX12_readRaft 47 = .ok (.iconst 3, 1) := by decide +kernel
theorem dX12_readRaft_48 : decode cX12_readRaft 48 = .ok (.invokevirtual 190, 3) := by decide +kernel
theorem dX12_readRaft_51 : decode cX12_readRaft 51 = .ok (.ireturn, 1) := by decide +kernel
theorem dX12_readRaft_52 : decode cX12_readRaft 52 = .ok (.aload_n 0, 1) := by decide +kernel
theorem dX12_readRaft_53 : decode cX12_readRaft 53 = .ok (.getfield 43, 3) := by decide +kernel
theorem dX12_readRaft_56 : decode cX12_readRaft 56 = .ok (.bipush 8, 2) := by decide +kernel
theorem dX12_readRaft_58 : decode cX12_readRaft 58 = .ok (.iload_n 1, 1) := by decide +kernel
theorem dX12_readRaft_59 : decode cX12_readRaft 59 = .ok (.iadd, 1) := by decide +kernel
theorem dX12_readRaft_60 : decode cX12_readRaft 60 = .ok (.aload_n 0, 1) := by decide +kernel
theorem dX12_readRaft_61 : decode cX12_readRaft 61 = .ok (.getfield 177, 3) := by decide +kernel
theorem dX12_readRaft_64 : decode cX12_readRaft 64 = .ok (.lastore, 1) := by decide +kernel
theorem dX12_readRaft_65 : decode cX12_readRaft 65 = .ok (.aload_n 0, 1) := by decide +kernel
theorem dX12_readRaft_66 : decode cX12_readRaft 66 = .ok (.invokevirtual 193, 3) := by decide +kernel
theorem dX12_readRaft_69 : decode cX12_readRaft 69 = .ok (.bipush 99, 2) := by decide +kernel
theorem dX12_readRaft_71 : decode cX12_readRaft 71 = .ok (.iconst 3, 1) := by decide +kernel
theorem dX12_readRaft_72 : decode cX12_readRaft 72 = .ok (.iload_n 1, 1) := by decide +kernel
theorem dX12_readRaft_73 : decode cX12_readRaft 73 = .ok (.imul, 1) := by decide +kernel
theorem dX12_readRaft_74 : decode cX12_readRaft 74 = .ok (.iadd, 1) := by decide +kernel
theorem dX12_readRaft_75 : decode cX12_readRaft 75 = .ok (.istore_n 2, 1) := by decide +kernel
theorem dX12_readRaft_76 : decode cX12_readRaft 76 = .ok (.aload_n 0, 1) := by decide +kernel
theorem dX12_readRaft_77 : decode cX12_readRaft 77 = .ok (.iconst 1, 1) := by decide +kernel
theorem dX12_readRaft_78 : decode cX12_readRaft 78 = .ok (.iconst 3, 1) := by decide +kernel
theorem dX12_readRaft_79 : decode cX12_readRaft 79 = .ok (.invokevirtual 211, 3) := by decide +kernel
theorem dX12_readRaft_82 : decode cX12_readRaft 82 = .ok (.ifCond .ne 5, 3) := by decide +kernel
theorem dX12_readRaft_85 : decode cX12_readRaft 85 = .ok (.iconst 0, 1) := by decide +kernel
theorem dX12_readRaft_86 : decode cX12_readRaft 86 = .ok (.ireturn, 1) := by decide +kernel
theorem dX12_readRaft_87 : decode cX12_readRaft 87 = .ok (.aload_n 0, 1) := by decide +kernel
theorem dX12_readRaft_88 : decode cX12_readRaft 88 = .ok (.getfield 37, 3) := by decide +kernel
theorem dX12_readRaft_91 : decode cX12_readRaft 91 = .ok (.iload_n 2, 1) := by decide +kernel
theorem dX12_readRaft_92 : decode cX12_readRaft 92 = .ok (.aload_n 0, 1) := by decide +kernel
theorem dX12_readRaft_93 : decode cX12_readRaft 93 = .ok (.getfield 200, 3) := by decide +kernel
theorem dX12_readRaft_96 : decode cX12_readRaft 96 = .ok (.iastore, 1) := by decide +kernel
theorem dX12_readRaft_97 : decode cX12_readRaft 97 = .ok (.aload_n 0, 1) := by decide +kernel
theorem dX12_readRaft_98 : decode cX12_readRaft 98 = .ok (.iconst 1, 1) := by decide +kernel
theorem dX12_readRaft_99 : decode cX12_readRaft 99 = .ok (.iconst 3, 1) := by decide +kernel
theorem dX12_readRaft_100 : decode cX12_readRaft 100 = .ok (.invokevirtual 211, 3) := by decide +kernel
theorem dX12_readRaft_103 : decode cX12_readRaft 103 = .ok (.ifCond .ne 5, 3) := by decide +kernel
theorem dX12_readRaft_106 : decode cX12_readRaft 106 = .ok (.iconst 0, 1) := by decide +kernel
theorem dX12_readRaft_107 : decode cX12_readRaft 107 = .ok (.ireturn, 1) := by decide +kernel
theorem dX12_readRaft_108 : decode cX12_readRaft 108 = .ok (.aload_n 0, 1) := by decide +kernel
theorem dX12_readRaft_109 : decode cX12_readRaft 109 = .ok (.getfield 37, 3) := by decide +kernel
theorem dX12_readRaft_112 : decode cX12_readRaft 112 = .ok (.iload_n 2, 1) := by decide +kernel
theorem dX12_readRaft_113 : decode cX12_readRaft 113 = .ok (.iconst 1, 1) := by decide +kernel
theorem dX12_readRaft_114 : decode cX12_readRaft 114 = .ok (.iadd, 1) := by decide +kernel
theorem dX12_readRaft_115 : decode cX12_readRaft 115 = .ok (.aload_n 0, 1) := by decide +kernel
theorem dX12_readRaft_116 : decode cX12_readRaft 116 = .ok (.getfield 200, 3) := by decide +kernel
theorem dX12_readRaft_119 : decode cX12_readRaft 119 = .ok (.iastore, 1) := by decide +kernel
theorem dX12_readRaft_120 : decode cX12_readRaft 120 = .ok (.aload_n 0, 1) := by decide +kernel
theorem dX12_readRaft_121 : decode cX12_readRaft 121 = .ok (.iconst 0, 1) := by decide +kernel
theorem dX12_readRaft_122 : decode cX12_readRaft 122 = .ok (.bipush 9, 2) := by decide +kernel
theorem dX12_readRaft_124 : decode cX12_readRaft 124 = .ok (.invokevirtual 211, 3) := by decide +kernel
theorem dX12_readRaft_127 : decode cX12_readRaft 127 = .ok (.ifCond .ne 5, 3) := by decide +kernel
theorem dX12_readRaft_130 : decode cX12_readRaft 130 = .ok (.iconst 0, 1) := by decide +kernel
theorem dX12_readRaft_131 : decode cX12_readRaft 131 = .ok (.ireturn, 1) := by decide +kernel
theorem dX12_readRaft_132 : decode cX12_readRaft 132 = .ok (.aload_n 0, 1) := by decide +kernel
theorem dX12_readRaft_133 : decode cX12_readRaft 133 = .ok (.getfield 37, 3) := by decide +kernel
theorem dX12_readRaft_136 : decode cX12_readRaft 136 = .ok (.iload_n 2, 1) := by decide +kernel
theorem dX12_readRaft_137 : decode cX12_readRaft 137 = .ok (.iconst 2, 1) := by decide +kernel
theorem dX12_readRaft_138 : decode cX12_readRaft 138 = .ok (.iadd, 1) := by decide +kernel
theorem dX12_readRaft_139 : decode cX12_readRaft 139 = .ok (.aload_n 0, 1) := by decide +kernel
theorem dX12_readRaft_140 : decode cX12_readRaft 140 = .ok (.getfield 200, 3) := by decide +kernel
theorem dX12_readRaft_143 : decode cX12_readRaft 143 = .ok (.iastore, 1) := by decide +kernel
theorem dX12_readRaft_144 : decode cX12_readRaft 144 = .ok (.aload_n 0, 1) := by decide +kernel
theorem dX12_readRaft_145 : decode cX12_readRaft 145 = .ok (.iconst 0, 1) := by decide +kernel
theorem dX12_readRaft_146 : decode cX12_readRaft 146 = .ok (.aload_n 0, 1) := by decide +kernel
theorem dX12_readRaft_147 : decode cX12_readRaft 147 = .ok (.getfield 37, 3) := by decide +kernel
theorem dX12_readRaft_150 : decode cX12_readRaft 150 = .ok (.iconst 0, 1) := by decide +kernel
theorem dX12_readRaft_151 : decode cX12_readRaft 151 = .ok (.iaload, 1) := by decide +kernel
theorem dX12_readRaft_152 : decode cX12_readRaft 152 = .ok (.iconst 1, 1) := by decide +kernel
theorem dX12_readRaft_153 : decode cX12_readRaft 153 = .ok (.isub, 1) := by decide +kernel
theorem dX12_readRaft_154 : decode cX12_readRaft 154 = .ok (.invokevirtual 211, 3) := by decide +kernel
theorem dX12_readRaft_157 : decode cX12_readRaft 157 = .ok (.ifCond .ne 5, 3) := by decide +kernel
theorem dX12_readRaft_160 : decode cX12_readRaft 160 = .ok (.iconst 0, 1) := by decide +kernel
theorem dX12_readRaft_161 : decode cX12_readRaft 161 = .ok (.ireturn, 1) := by decide +kernel
theorem dX12_readRaft_162 : decode cX12_readRaft 162 = .ok (.aload_n 0, 1) := by decide +kernel
theorem dX12_readRaft_163 : decode cX12_readRaft 163 = .ok (.getfield 200, 3) := by decide +kernel
theorem dX12_readRaft_166 : decode cX12_readRaft 166 = .ok (.istore_n 3, 1) := by decide +kernel
theorem dX12_readRaft_167 : decode cX12_readRaft 167 = .ok (.aload_n 0, 1) := by decide +kernel
theorem dX12_readRaft_168 : decode cX12_readRaft 168 = .ok (.getfield 164, 3) := by decide +kernel
theorem dX12_readRaft_171 : decode cX12_readRaft 171 = .ok (.iconst 2, 1) := by decide +kernel
theorem dX12_readRaft_172 : decode cX12_readRaft 172 = .ok (.if_icmp .eq 9, 3) := by decide +kernel
theorem dX12_readRaft_175 : decode cX12_readRaft 175 = .ok (.aload_n 0, 1) := by decide +kernel
theorem dX12_readRaft_176 : decode cX12_readRaft 176 = .ok (.iconst 1, 1) := by decide +kernel
theorem dX12_readRaft_177 : decode cX12_readRaft 177 = .ok (.invokevirtual 190, 3) := by decide +kernel
theorem dX12_readRaft_180 : decode cX12_readRaft 180 = .ok (.ireturn, 1) := by decide +kernel
theorem dX12_readRaft_181 : decode cX12_readRaft 181 = .ok (.aload_n 0, 1) := by decide +kernel
theorem dX12_readRaft_182 : decode cX12_readRaft 182 = .ok (.getfield 174, 3) := by decide +kernel
theorem dX12_readRaft_185 : decode cX12_readRaft 185 = .ok (.aload_n 0, 1) := by decide +kernel
theorem dX12_readRaft_186 : decode cX12_readRaft 186 = .ok (.getfield 37, 3) := by decide +kernel
theorem dX12_readRaft_189 : decode cX12_readRaft 189 = .ok (.iconst 1, 1) := by decide +kernel
theorem dX12_readRaft_190 : decode cX12_readRaft 190 = .ok (.iaload, 1) := by decide +kernel
theorem dX12_readRaft_191 : decode cX12_readRaft 191 = .ok (.iconst 1, 1) := by decide +kernel
theorem dX12_readRaft_192 : decode cX12_readRaft 192 = .ok (.isub, 1) := by decide +kernel
theorem dX12_readRaft_193 : decode cX12_readRaft 193 = .ok (.if_icmp .gt 42, 3) := by decide +kernel
theorem dX12_readRaft_196 : decode cX12_readRaft 196 = .ok (.iload_n 3, 1) := by decide +kernel
theorem dX12_readRaft_197 : decode cX12_readRaft 197 = .ok (.aload_n 0, 1) := by decide +kernel
theorem dX12_readRaft_198 : decode cX12_readRaft 198 = .ok (.getfield 37, 3) := by decide +kernel
theorem dX12_readRaft_201 : decode cX12_readRaft 201 = .ok (.iload_n 2, 1) := by decide +kernel
theorem dX12_readRaft_202 : decode cX12_readRaft 202 = .ok (.iaload, 1) := by decide +kernel
theorem dX12_readRaft_203 : decode cX12_readRaft 203 = .ok (.iadd, 1) := by decide +kernel
theorem dX12_readRaft_204 : decode cX12_readRaft 204 = .ok (.aload_n 0, 1) := by decide +kernel
theorem dX12_readRaft_205 : decode cX12_readRaft 205 = .ok (.getfield 37, 3) := by decide +kernel
theorem dX12_readRaft_208 : decode cX12_readRaft 208 = .ok (.iconst 0, 1) := by decide +kernel
theorem dX12_readRaft_209 : decode cX12_readRaft 209 = .ok (.iaload, 1) := by decide +kernel
theorem dX12_readRaft_210 : decode cX12_readRaft 210 = .ok (.if_icmp .gt 25, 3) := by decide +kernel
theorem dX12_readRaft_213 : decode cX12_readRaft 213 = .ok (.aload_n 0, 1) := by decide +kernel
theorem dX12_readRaft_214 : decode cX12_readRaft 214 = .ok (.getfield 174, 3) := by decide +kernel
theorem dX12_readRaft_217 : decode cX12_readRaft 217 = .ok (.aload_n 0, 1) := by decide +kernel
theorem dX12_readRaft_218 : decode cX12_readRaft 218 = .ok (.getfield 37, 3) := by decide +kernel
theorem dX12_readRaft_221 : decode cX12_readRaft 221 = .ok (.iload_n 2, 1) := by decide +kernel
theorem dX12_readRaft_222 : decode cX12_readRaft 222 = .ok (.iconst 1, 1) := by decide +kernel
theorem dX12_readRaft_223 : decode cX12_readRaft 223 = .ok (.iadd, 1) := by decide +kernel
theorem dX12_readRaft_224 : decode cX12_readRaft 224 = .ok (.iaload, 1) := by decide +kernel
theorem dX12_readRaft_225 : decode cX12_readRaft 225 = .ok (.iadd, 1) := by decide +kernel
theorem dX12_readRaft_226 : decode cX12_readRaft 226 = .ok (.aload_n 0, 1) := by decide +kernel
theorem dX12_readRaft_227 : decode cX12_readRaft 227 = .ok (.getfield 37, 3) := by decide +kernel
theorem dX12_readRaft_230 : decode cX12_readRaft 230 = .ok (.iconst 1, 1) := by decide +kernel
theorem dX12_readRaft_231 : decode cX12_readRaft 231 = .ok (.iaload, 1) := by decide +kernel
theorem dX12_readRaft_232 : decode cX12_readRaft 232 = .ok (.if_icmp .le 9, 3) := by decide +kernel
theorem dX12_readRaft_235 : decode cX12_readRaft 235 = .ok (.aload_n 0, 1) := by decide +kernel
theorem dX12_readRaft_236 : decode cX12_readRaft 236 = .ok (.iconst 2, 1) := by decide +kernel
theorem dX12_readRaft_237 : decode cX12_readRaft 237 = .ok (.invokevirtual 190, 3) := by decide +kernel
theorem dX12_readRaft_240 : decode cX12_readRaft 240 = .ok (.ireturn, 1) := by decide +kernel
theorem dX12_readRaft_241 : decode cX12_readRaft 241 = .ok (.aload_n 0, 1) := by decide +kernel
theorem dX12_readRaft_242 : decode cX12_readRaft 242 = .ok (.getfield 174, 3) := by decide +kernel
theorem dX12_readRaft_245 : decode cX12_readRaft 245 = .ok (.istore 4, 2) := by decide +kernel
theorem dX12_readRaft_247 : decode cX12_readRaft 247 = .ok (.iconst 0, 1) := by decide +kernel
theorem dX12_readRaft_248 : decode cX12_readRaft 248 = .ok (.istore 5, 2) := by decide +kernel
theorem dX12_readRaft_250 : decode cX12_readRaft 250 = .ok (.iload 5, 2) := by decide +kernel
theorem dX12_readRaft_252 : decode cX12_readRaft 252 = .ok (.iload_n 1, 1) := by decide +kernel
theorem dX12_readRaft_253 : decode cX12_readRaft 253 = .ok (.if_icmp .ge 119, 3) := by decide +kernel
theorem dX12_readRaft_256 : decode cX12_readRaft 256 = .ok (.sipush 225, 3) := by decide +kernel
theorem dX12_readRaft_259 : decode cX12_readRaft 259 = .ok (.iconst 3, 1) := by decide +kernel
theorem dX12_readRaft_260 : decode cX12_readRaft 260 = .ok (.iload 5, 2) := by decide +kernel
theorem dX12_readRaft_262 : decode cX12_readRaft 262 = .ok (.imul, 1) := by decide +kernel
theorem dX12_readRaft_263 : decode cX12_readRaft 263 = .ok (.iadd, 1) := by decide +kernel
theorem dX12_readRaft_264 : decode cX12_readRaft 264 = .ok (.istore 6, 2) := by decide +kernel
theorem dX12_readRaft_266 : decode cX12_readRaft 266 = .ok (.iload_n 3, 1) := by decide +kernel
theorem dX12_readRaft_267 : decode cX12_readRaft 267 = .ok (.aload_n 0, 1) := by decide +kernel
theorem dX12_readRaft_268 : decode cX12_readRaft 268 = .ok (.getfield 37, 3) := by decide +kernel
theorem dX12_readRaft_271 : decode cX12_readRaft 271 = .ok (.iload 6, 2) := by decide +kernel
theorem dX12_readRaft_273 : decode cX12_readRaft 273 = .ok (.iaload, 1) := by decide +kernel
theorem dX12_readRaft_274 : decode cX12_readRaft 274 = .ok (.aload_n 0, 1) := by decide +kernel
theorem dX12_readRaft_275 : decode cX12_readRaft 275 = .ok (.getfield 37, 3) := by decide +kernel
theorem dX12_readRaft_278 : decode cX12_readRaft 278 = .ok (.bipush 99, 2) := by decide +kernel
theorem dX12_readRaft_280 : decode cX12_readRaft 280 = .ok (.iconst 3, 1) := by decide +kernel
theorem dX12_readRaft_281 : decode cX12_readRaft 281 = .ok (.iload 5, 2) := by decide +kernel
theorem dX12_readRaft_283 : decode cX12_readRaft 283 = .ok (.imul, 1) := by decide +kernel
theorem dX12_readRaft_284 : decode cX12_readRaft 284 = .ok (.iadd, 1) := by decide +kernel
theorem dX12_readRaft_285 : decode cX12_readRaft 285 = .ok (.iaload, 1) := by decide +kernel
theorem dX12_readRaft_286 : decode cX12_readRaft 286 = .ok (.iadd, 1) := by decide +kernel
theorem dX12_readRaft_287 : decode cX12_readRaft 287 = .ok (.if_icmp .ge 79, 3) := by decide +kernel
theorem dX12_readRaft_290 : decode cX12_readRaft 290 = .ok (.aload_n 0, 1) := by decide +kernel
theorem dX12_readRaft_291 : decode cX12_readRaft 291 = .ok (.getfield 37, 3) := by decide +kernel
theorem dX12_readRaft_294 : decode cX12_readRaft 294 = .ok (.iload 6, 2) := by decide +kernel
theorem dX12_readRaft_296 : decode cX12_readRaft 296 = .ok (.iaload, 1) := by decide +kernel
theorem dX12_readRaft_297 : decode cX12_readRaft 297 = .ok (.iload_n 3, 1) := by decide +kernel
theorem dX12_readRaft_298 : decode cX12_readRaft 298 = .ok (.aload_n 0, 1) := by decide +kernel
theorem dX12_readRaft_299 : decode cX12_readRaft 299 = .ok (.getfield 37, 3) := by decide +kernel
theorem dX12_readRaft_302 : decode cX12_readRaft 302 = .ok (.iload_n 2, 1) := by decide +kernel
theorem dX12_readRaft_303 : decode cX12_readRaft 303 = .ok (.iaload, 1) := by decide +kernel
theorem dX12_readRaft_304 : decode cX12_readRaft 304 = .ok (.iadd, 1) := by decide +kernel
theorem dX12_readRaft_305 : decode cX12_readRaft 305 = .ok (.if_icmp .ge 61, 3) := by decide +kernel
theorem dX12_readRaft_308 : decode cX12_readRaft 308 = .ok (.iload 4, 2) := by decide +kernel
theorem dX12_readRaft_310 : decode cX12_readRaft 310 = .ok (.aload_n 0, 1) := by decide +kernel
theorem dX12_readRaft_311 : decode cX12_readRaft 311 = .ok (.getfield 37, 3) := by decide +kernel
theorem dX12_readRaft_314 : decode cX12_readRaft 314 = .ok (.iload 6, 2) := by decide +kernel
theorem dX12_readRaft_316 : decode cX12_readRaft 316 = .ok (.iconst 1, 1) := by decide +kernel
theorem dX12_readRaft_317 : decode cX12_readRaft 317 = .ok (.iadd, 1) := by decide +kernel
theorem dX12_readRaft_318 : decode cX12_readRaft 318 = .ok (.iaload, 1) := by decide +kernel
theorem dX12_readRaft_319 : decode cX12_readRaft 319 = .ok (.aload_n 0, 1) := by decide +kernel
theorem dX12_readRaft_320 : decode cX12_readRaft 320 = .ok (.getfield 37, 3) := by decide +kernel
theorem dX12_readRaft_323 : decode cX12_readRaft 323 = .ok (.bipush 99, 2) := by decide +kernel
theorem dX12_readRaft_325 : decode cX12_readRaft 325 = .ok (.iconst 3, 1) := by decide +kernel
theorem dX12_readRaft_326 : decode cX12_readRaft 326 = .ok (.iload 5, 2) := by decide +kernel
theorem dX12_readRaft_328 : decode cX12_readRaft 328 = .ok (.imul, 1) := by decide +kernel
theorem dX12_readRaft_329 : decode cX12_readRaft 329 = .ok (.iadd, 1) := by decide +kernel
theorem dX12_readRaft_330 : decode cX12_readRaft 330 = .ok (.iconst 1, 1) := by decide +kernel
theorem dX12_readRaft_331 : decode cX12_readRaft 331 = .ok (.iadd, 1) := by decide +kernel
theorem dX12_readRaft_332 : decode cX12_readRaft 332 = .ok (.iaload, 1) := by decide +kernel
theorem dX12_readRaft_333 : decode cX12_readRaft 333 = .ok (.iadd, 1) := by decide +kernel
theorem dX12_readRaft_334 : decode cX12_readRaft 334 = .ok (.if_icmp .ge 32, 3) := by decide +kernel
theorem dX12_readRaft_337 : decode cX12_readRaft 337 = .ok (.aload_n 0, 1) := by decide +kernel
theorem dX12_readRaft_338 : decode cX12_readRaft 338 = .ok (.getfield 37, 3) := by decide +kernel
theorem dX12_readRaft_341 : decode cX12_readRaft 341 = .ok (.iload 6, 2) := by decide +kernel
theorem dX12_readRaft_343 : decode cX12_readRaft 343 = .ok (.iconst 1, 1) := by decide +kernel
theorem dX12_readRaft_344 : decode cX12_readRaft 344 = .ok (.iadd, 1) := by decide +kernel
theorem dX12_readRaft_345 : decode cX12_readRaft 345 = .ok (.iaload, 1) := by decide +kernel
theorem dX12_readRaft_346 : decode cX12_readRaft 346 = .ok (.iload 4, 2) := by decide +kernel
theorem dX12_readRaft_348 : decode cX12_readRaft 348 = .ok (.aload_n 0, 1) := by decide +kernel
theorem dX12_readRaft_349 : decode cX12_readRaft 349 = .ok (.getfield 37, 3) := by decide +kernel
theorem dX12_readRaft_352 : decode cX12_readRaft 352 = .ok (.iload_n 2, 1) := by decide +kernel
theorem dX12_readRaft_353 : decode cX12_readRaft 353 = .ok (.iconst 1, 1) := by decide +kernel
theorem dX12_readRaft_354 : decode cX12_readRaft 354 = .ok (.iadd, 1) := by decide +kernel
theorem dX12_readRaft_355 : decode cX12_readRaft 355 = .ok (.iaload, 1) := by decide +kernel
theorem dX12_readRaft_356 : decode cX12_readRaft 356 = .ok (.iadd, 1) := by decide +kernel
theorem dX12_readRaft_357 : decode cX12_readRaft 357 = .ok (.if_icmp .ge 9, 3) := by decide +kernel
theorem dX12_readRaft_360 : decode cX12_readRaft 360 = .ok (.aload_n 0, 1) := by decide +kernel
theorem dX12_readRaft_361 : decode cX12_readRaft 361 = .ok (.iconst 3, 1) := by decide +kernel
theorem dX12_readRaft_362 : decode cX12_readRaft 362 = .ok (.invokevirtual 190, 3) := by decide +kernel
theorem dX12_readRaft_365 : decode cX12_readRaft 365 = .ok (.ireturn, 1) := by decide +kernel
theorem dX12_readRaft_366 : decode cX12_readRaft 366 = .ok (.iinc 5 1, 3) := by decide +kernel
theorem dX12_readRaft_369 : decode cX12_readRaft 369 = .ok (.goto (-119), 3) := by decide +kernel
theorem dX12_readRaft_372 : decode cX12_readRaft 372 = .ok (.aload_n 0, 1) := by decide +kernel
theorem dX12_readRaft_373 : decode cX12_readRaft 373 = .ok (.getfield 37, 3) := by decide +kernel
theorem dX12_readRaft_376 : decode cX12_readRaft 376 = .ok (.sipush 225, 3) := by decide +kernel
theorem dX12_readRaft_379 : decode cX12_readRaft 379 = .ok (.iconst 3, 1) := by decide +kernel
theorem dX12_readRaft_380 : decode cX12_readRaft 380 = .ok (.iload_n 1, 1) := by decide +kernel
theorem dX12_readRaft_381 : decode cX12_readRaft 381 = .ok (.imul, 1) := by decide +kernel
theorem dX12_readRaft_382 : decode cX12_readRaft 382 = .ok (.iadd, 1) := by decide +kernel
theorem dX12_readRaft_383 : decode cX12_readRaft 383 = .ok (.iload_n 3, 1) := by decide +kernel
theorem dX12_readRaft_384 : decode cX12_readRaft 384 = .ok (.iastore, 1) := by decide +kernel
theorem dX12_readRaft_385 : decode cX12_readRaft 385 = .ok (.aload_n 0, 1) := by decide +kernel
theorem dX12_readRaft_386 : decode cX12_readRaft 386 = .ok (.getfield 37, 3) := by decide +kernel
theorem dX12_readRaft_389 : decode cX12_readRaft 389 = .ok (.sipush 225, 3) := by decide +kernel
theorem dX12_readRaft_392 : decode cX12_readRaft 392 = .ok (.iconst 3, 1) := by decide +kernel
theorem dX12_readRaft_393 : decode cX12_readRaft 393 = .ok (.iload_n 1, 1) := by decide +kernel
theorem dX12_readRaft_394 : decode cX12_readRaft 394 = .ok (.imul, 1) := by decide +kernel
theorem dX12_readRaft_395 : decode cX12_readRaft 395 = .ok (.iadd, 1) := by decide +kernel
theorem dX12_readRaft_396 : decode cX12_readRaft 396 = .ok (.iconst 1, 1) := by decide +kernel
theorem dX12_readRaft_397 : decode cX12_readRaft 397 = .ok (.iadd, 1) := by decide +kernel
theorem dX12_readRaft_398 : decode cX12_readRaft 398 = .ok (.iload 4, 2) := by decide +kernel
theorem dX12_readRaft_400 : decode cX12_readRaft 400 = .ok (.iastore, 1) := by decide +kernel
theorem dX12_readRaft_401 : decode cX12_readRaft 401 = .ok (.aload_n 0, 1) := by decide +kernel
theorem dX12_readRaft_402 : decode cX12_readRaft 402 = .ok (.getfield 37, 3) := by decide +kernel
theorem dX12_readRaft_405 : decode cX12_readRaft 405 = .ok (.sipush 225, 3) := by decide +kernel
theorem dX12_readRaft_408 : decode cX12_readRaft 408 = .ok (.iconst 3, 1) := by decide +kernel
theorem dX12_readRaft_409 : decode cX12_readRaft 409 = .ok (.iload_n 1, 1) := by decide +kernel
theorem dX12_readRaft_410 : decode cX12_readRaft 410 = .ok (.imul, 1) := by decide +kernel
theorem dX12_readRaft_411 : decode cX12_readRaft 411 = .ok (.iadd, 1) := by decide +kernel
theorem dX12_readRaft_412 : decode cX12_readRaft 412 = .ok (.iconst 2, 1) := by decide +kernel
theorem dX12_readRaft_413 : decode cX12_readRaft 413 = .ok (.iadd, 1) := by decide +kernel
theorem dX12_readRaft_414 : decode cX12_readRaft 414 = .ok (.iconst 0, 1) := by decide +kernel
theorem dX12_readRaft_415 : decode cX12_readRaft 415 = .ok (.iastore, 1) := by decide +kernel
theorem dX12_readRaft_416 : decode cX12_readRaft 416 = .ok (.aload_n 0, 1) := by decide +kernel
theorem dX12_readRaft_417 : decode cX12_readRaft 417 = .ok (.getfield 37, 3) := by decide +kernel
theorem dX12_readRaft_420 : decode cX12_readRaft 420 = .ok (.iconst 2, 1) := by decide +kernel
theorem dX12_readRaft_421 : decode cX12_readRaft 421 = .ok (.dup2, 1) := by decide +kernel
theorem dX12_readRaft_422 : decode cX12_readRaft 422 = .ok (.iaload, 1) := by decide +kernel
theorem dX12_readRaft_423 : decode cX12_readRaft 423 = .ok (.iconst 1, 1) := by decide +kernel
theorem dX12_readRaft_424 : decode cX12_readRaft 424 = .ok (.iadd, 1) := by decide +kernel
theorem dX12_readRaft_425 : decode cX12_readRaft 425 = .ok (.iastore, 1) := by decide +kernel
theorem dX12_readRaft_426 : decode cX12_readRaft 426 = .ok (.aload_n 0, 1) := by decide +kernel
theorem dX12_readRaft_427 : decode cX12_readRaft 427 = .ok (.invokevirtual 193, 3) := by decide +kernel
theorem dX12_readRaft_430 : decode cX12_readRaft 430 = .ok (.iconst 1, 1) := by decide +kernel
theorem dX12_readRaft_431 : decode cX12_readRaft 431 = .ok (.ireturn, 1) := by decide +kernel
def wb_X12_readRaft_366 (K250 : AH → Nat → Int32 → Int32 → Int32 → Int32 → Int32 → Prop) (h : AH) (al0 : Nat) (xl1 : Int32) (xl2 : Int32) (xl3 : Int32) (xl4 : Int32) (xl5 : Int32)  (post : AH → Int32 → Prop) : Prop := ∀ iv1 : Int32, iv1 = xl5 + 1 → (K250 h al0 xl1 xl2 xl3 xl4 iv1)
set_option maxRecDepth 100000 in
theorem tb_X12_readRaft_366 {G : GG} {p : Program} {l : Launch} {e : Env} {R : Room} {s : State} {m : MethodId} {args : Array Value} {below : List Frame} {meth : Method} {c : Code} {n0 s0 : Nat} {post : AH → Int32 → Prop} (C : Cx G p R s m args meth c 7 cX12_readRaft RX12 n0 s0 3 65) (hr : meth.sig.returnType = (some .boolean)) {K250 : AH → Nat → Int32 → Int32 → Int32 → Int32 → Int32 → Prop} (hK250 : ∀ (h : AH) (al0 : Nat) (xl1 : Int32) (xl2 : Int32) (xl3 : Int32) (xl4 : Int32) (xl5 : Int32), K250 h al0 xl1 xl2 xl3 xl4 xl5 → AW G p l e R s m args below meth c 7 (QM G (pI post) args s below n0 s0) 250 [(0, .ref (G.1 + al0)), (1, .int xl1), (2, .int xl2), (3, .int xl3), (4, .int xl4), (5, .int xl5)] [] h) {h : AH} {al0 : Nat} {xl1 : Int32} {xl2 : Int32} {xl3 : Int32} {xl4 : Int32} {xl5 : Int32}  (hw : wb_X12_readRaft_366 K250 h al0 xl1 xl2 xl3 xl4 xl5 post) : AW G p l e R s m args below meth c 7 (QM G (pI post) args s below n0 s0) 366 [(0, .ref (G.1 + al0)), (1, .int xl1), (2, .int xl2), (3, .int xl3), (4, .int xl4), (5, .int xl5)] [] h := by
  unfold wb_X12_readRaft_366 at hw
  obtain ⟨iv1, eiv1⟩ : ∃ q : Int32, q = xl5 + 1 := ⟨_, rfl⟩
  replace hw := hw iv1 eiv1
  refine r_iinc C dX12_readRaft_366 5 rfl (by rw [eiv1]; rfl) [(5, .int iv1), (0, .ref (G.1 + al0)), (1, .int xl1), (2, .int xl2), (3, .int xl3), (4, .int xl4)] (by decide) rfl ?_
  refine r_goto C dX12_readRaft_369 250 (by decide) ?_
  refine r_sub [1, 2, 3, 4, 5, 0] rfl ?_
  exact hK250 _ _ _ _ _ _ _ hw
set_option maxRecDepth 100000 in
def wb_X12_readRaft_250 (K250 : AH → Nat → Int32 → Int32 → Int32 → Int32 → Int32 → Prop) (h : AH) (al0 : Nat) (xl1 : Int32) (xl2 : Int32) (xl3 : Int32) (xl4 : Int32) (xl5 : Int32)  (post : AH → Int32 → Prop) : Prop := (xl1 ≤ xl5 → ((ob h al0 11) ∧ (∃ rv1, aP h al0 7 = some rv1 ∧ ((ob h rv1 13) ∧ ((vp_in ((225 : Int32) + ((3 : Int32) * xl1)) (aL h rv1)) ∧ (∀ hv2 : AH, hv2 = hI h rv1 ((225 : Int32) + ((3 : Int32) * xl1)).toNatClampNeg xl3 → ((ob hv2 al0 11) ∧ (∃ rv3, aP hv2 al0 7 = some rv3 ∧ ((ob hv2 rv3 13) ∧ ((vp_in (((225 : Int32) + ((3 : Int32) * xl1)) + (1 : Int32)) (aL hv2 rv3)) ∧ (∀ hv4 : AH, hv4 = hI hv2 rv3 (((225 : Int32) + ((3 : Int32) * xl1)) + (1 : Int32)).toNatClampNeg xl4 → ((ob hv4 al0 11) ∧ (∃ rv5, aP hv4 al0 7 = some rv5 ∧ ((ob hv4 rv5 13) ∧ ((vp_in (((225 : Int32) + ((3 : Int32) * xl1)) + (2 : Int32)) (aL hv4 rv5)) ∧ (∀ hv6 : AH, hv6 = hI hv4 rv5 (((225 : Int32) + ((3 : Int32) * xl1)) + (2 : Int32)).toNatClampNeg 0 → ((ob hv6 al0 11) ∧ (∃ rv7, aP hv6 al0 7 = some rv7 ∧ ((ob hv6 rv7 13) ∧ ((vp_in 2 (aL hv6 rv7)) ∧ ((ob hv6 rv7 13) ∧ ((vp_in 2 (aL hv6 rv7)) ∧ (∀ hv8 : AH, hv8 = hI hv6 rv7 (2 : Int32).toNatClampNeg ((aI hv6 rv7 (2 : Int32).toNatClampNeg) + (1 : Int32)) → ((ob hv8 al0 11) ∧ wp_X12_next hv8 al0  (fun hv9  => ((1 : Int32) = 0 ∨ (1 : Int32) = 1) ∧ post hv9 1))))))))))))))))))))))))) ∧ (¬ xl1 ≤ xl5 → (∀ iv10 : Int32, iv10 = (225 : Int32) + ((3 : Int32) * xl5) → ((ob h al0 11) ∧ (∃ rv11, aP h al0 7 = some rv11 ∧ ((ob h rv11 13) ∧ ((vp_in iv10 (aL h rv11)) ∧ ((ob h al0 11) ∧ (∃ rv12, aP h al0 7 = some rv12 ∧ ((ob h rv12 13) ∧ ((vp_in ((99 : Int32) + ((3 : Int32) * xl5)) (aL h rv12)) ∧ ((((aI h rv11 iv10.toNatClampNeg) + (aI h rv12 ((99 : Int32) + ((3 : Int32) * xl5)).toNatClampNeg)) ≤ xl3 → (wb_X12_readRaft_366 K250 h al0 xl1 xl2 xl3 xl4 xl5 post)) ∧ (¬ ((aI h rv11 iv10.toNatClampNeg) + (aI h rv12 ((99 : Int32) + ((3 : Int32) * xl5)).toNatClampNeg)) ≤ xl3 → ((ob h al0 11) ∧ (∃ rv13, aP h al0 7 = some rv13 ∧ ((ob h rv13 13) ∧ ((vp_in iv10 (aL h rv13)) ∧ ((ob h al0 11) ∧ (∃ rv14, aP h al0 7 = some rv14 ∧ ((ob h rv14 13) ∧ ((vp_in xl2 (aL h rv14)) ∧ (((xl3 + (aI h rv14 xl2.toNatClampNeg)) ≤ (aI h rv13 iv10.toNatClampNeg) → (wb_X12_readRaft_366 K250 h al0 xl1 xl2 xl3 xl4 xl5 post)) ∧ (¬ (xl3 + (aI h rv14 xl2.toNatClampNeg)) ≤ (aI h rv13 iv10.toNatClampNeg) → ((ob h al0 11) ∧ (∃ rv15, aP h al0 7 = some rv15 ∧ ((ob h rv15 13) ∧ ((vp_in (iv10 + (1 : Int32)) (aL h rv15)) ∧ ((ob h al0 11) ∧ (∃ rv16, aP h al0 7 = some rv16 ∧ ((ob h rv16 13) ∧ ((vp_in (((99 : Int32) + ((3 : Int32) * xl5)) + (1 : Int32)) (aL h rv16)) ∧ ((((aI h rv15 (iv10 + (1 : Int32)).toNatClampNeg) + (aI h rv16 (((99 : Int32) + ((3 : Int32) * xl5)) + (1 : Int32)).toNatClampNeg)) ≤ xl4 → (wb_X12_readRaft_366 K250 h al0 xl1 xl2 xl3 xl4 xl5 post)) ∧ (¬ ((aI h rv15 (iv10 + (1 : Int32)).toNatClampNeg) + (aI h rv16 (((99 : Int32) + ((3 : Int32) * xl5)) + (1 : Int32)).toNatClampNeg)) ≤ xl4 → ((ob h al0 11) ∧ (∃ rv17, aP h al0 7 = some rv17 ∧ ((ob h rv17 13) ∧ ((vp_in (iv10 + (1 : Int32)) (aL h rv17)) ∧ ((ob h al0 11) ∧ (∃ rv18, aP h al0 7 = some rv18 ∧ ((ob h rv18 13) ∧ ((vp_in (xl2 + (1 : Int32)) (aL h rv18)) ∧ (((xl4 + (aI h rv18 (xl2 + (1 : Int32)).toNatClampNeg)) ≤ (aI h rv17 (iv10 + (1 : Int32)).toNatClampNeg) → (wb_X12_readRaft_366 K250 h al0 xl1 xl2 xl3 xl4 xl5 post)) ∧ (¬ (xl4 + (aI h rv18 (xl2 + (1 : Int32)).toNatClampNeg)) ≤ (aI h rv17 (iv10 + (1 : Int32)).toNatClampNeg) → ((ob h al0 11) ∧ wp_X12_bad h al0 3 (fun hv19 iv20 => (iv20 = 0 ∨ iv20 = 1) ∧ post hv19 iv20))))))))))))))))))))))))))))))))))))))))))))
set_option maxRecDepth 100000 in
theorem tb_X12_readRaft_250 {G : GG} {p : Program} {l : Launch} {e : Env} {R : Room} {s : State} {m : MethodId} {args : Array Value} {below : List Frame} {meth : Method} {c : Code} {n0 s0 : Nat} {post : AH → Int32 → Prop} (C : Cx G p R s m args meth c 7 cX12_readRaft RX12 n0 s0 3 65) (hr : meth.sig.returnType = (some .boolean)) {K250 : AH → Nat → Int32 → Int32 → Int32 → Int32 → Int32 → Prop} (hK250 : ∀ (h : AH) (al0 : Nat) (xl1 : Int32) (xl2 : Int32) (xl3 : Int32) (xl4 : Int32) (xl5 : Int32), K250 h al0 xl1 xl2 xl3 xl4 xl5 → AW G p l e R s m args below meth c 7 (QM G (pI post) args s below n0 s0) 250 [(0, .ref (G.1 + al0)), (1, .int xl1), (2, .int xl2), (3, .int xl3), (4, .int xl4), (5, .int xl5)] [] h) {h : AH} {al0 : Nat} {xl1 : Int32} {xl2 : Int32} {xl3 : Int32} {xl4 : Int32} {xl5 : Int32}  (hw : wb_X12_readRaft_250 K250 h al0 xl1 xl2 xl3 xl4 xl5 post) : AW G p l e R s m args below meth c 7 (QM G (pI post) args s below n0 s0) 250 [(0, .ref (G.1 + al0)), (1, .int xl1), (2, .int xl2), (3, .int xl3), (4, .int xl4), (5, .int xl5)] [] h := by
  unfold wb_X12_readRaft_250 at hw
  refine r_iload C dX12_readRaft_250 5 rfl ?_
  refine r_iload_n C dX12_readRaft_252 1 rfl ?_
  refine r_icmp_ge C dX12_readRaft_253 372 (by decide) (fun hc => ?_) (fun hc => ?_)
  · replace hw := hw.1 hc
    refine r_aload_n C dX12_readRaft_372 0 rfl ?_
    have hob := hw.1
    obtain ⟨rv1, hp, hw⟩ := hw.2
    refine r_getP C fl_RX12_37_11 hob hp (fun _ _ _ => rfl) dX12_readRaft_373 ?_
    refine r_sipush (v := 225) C dX12_readRaft_376 (by decide) ?_
    refine r_iconst (v := 3) C dX12_readRaft_379 (by decide) ?_
    refine r_iload_n C dX12_readRaft_380 1 rfl ?_
    refine r_imul C dX12_readRaft_381 ?_
    refine r_iadd C dX12_readRaft_382 ?_
    refine r_iload_n C dX12_readRaft_383 3 rfl ?_
    refine r_iastore C hw.1 hw.2.1 dX12_readRaft_384 ?_
    replace hw := hw.2.2
    refine r_toph fun hv2 ehv2 => ?_
    replace hw := hw hv2 ehv2
    refine r_aload_n C dX12_readRaft_385 0 rfl ?_
    have hob := hw.1
    obtain ⟨rv3, hp, hw⟩ := hw.2
    refine r_getP C fl_RX12_37_11 hob hp (fun _ _ _ => rfl) dX12_readRaft_386 ?_
    refine r_sipush (v := 225) C dX12_readRaft_389 (by decide) ?_
    refine r_iconst (v := 3) C dX12_readRaft_392 (by decide) ?_
    refine r_iload_n C dX12_readRaft_393 1 rfl ?_
    refine r_imul C dX12_readRaft_394 ?_
    refine r_iadd C dX12_readRaft_395 ?_
    refine r_iconst (v := 1) C dX12_readRaft_396 (by decide) ?_
    refine r_iadd C dX12_readRaft_397 ?_
    refine r_iload C dX12_readRaft_398 4 rfl ?_
    refine r_iastore C hw.1 hw.2.1 dX12_readRaft_400 ?_
    replace hw := hw.2.2
    refine r_toph fun hv4 ehv4 => ?_
    replace hw := hw hv4 ehv4
    refine r_aload_n C dX12_readRaft_401 0 rfl ?_
    have hob := hw.1
    obtain ⟨rv5, hp, hw⟩ := hw.2
    refine r_getP C fl_RX12_37_11 hob hp (fun _ _ _ => rfl) dX12_readRaft_402 ?_
    refine r_sipush (v := 225) C dX12_readRaft_405 (by decide) ?_
    refine r_iconst (v := 3) C dX12_readRaft_408 (by decide) ?_
    refine r_iload_n C dX12_readRaft_409 1 rfl ?_
    refine r_imul C dX12_readRaft_410 ?_
    refine r_iadd C dX12_readRaft_411 ?_
    refine r_iconst (v := 2) C dX12_readRaft_412 (by decide) ?_
    refine r_iadd C dX12_readRaft_413 ?_
    refine r_iconst (v := 0) C dX12_readRaft_414 (by decide) ?_
    refine r_iastore C hw.1 hw.2.1 dX12_readRaft_415 ?_
    replace hw := hw.2.2
    refine r_toph fun hv6 ehv6 => ?_
    replace hw := hw hv6 ehv6
    refine r_aload_n C dX12_readRaft_416 0 rfl ?_
    have hob := hw.1
    obtain ⟨rv7, hp, hw⟩ := hw.2
    refine r_getP C fl_RX12_37_11 hob hp (fun _ _ _ => rfl) dX12_readRaft_417 ?_
    refine r_iconst (v := 2) C dX12_readRaft_420 (by decide) ?_
    refine r_dup2 C dX12_readRaft_421 rfl rfl ?_
    refine r_iaload C hw.1 hw.2.1 dX12_readRaft_422 ?_
    replace hw := hw.2.2
    refine r_iconst (v := 1) C dX12_readRaft_423 (by decide) ?_
    refine r_iadd C dX12_readRaft_424 ?_
    refine r_iastore C hw.1 hw.2.1 dX12_readRaft_425 ?_
    replace hw := hw.2.2
    refine r_toph fun hv8 ehv8 => ?_
    replace hw := hw hv8 ehv8
    refine r_aload_n C dX12_readRaft_426 0 rfl ?_
    have hob := hw.1
    replace hw := hw.2
    refine r_callV C (As := []) (rest := []) (c_X12_next G hv8 al0  _ hw) yl_X12_next (gm7 (List.mem_of_getElem? (i := 151) rfl) rfl) (gm7 (List.mem_of_getElem? (i := 153) rfl) rfl) (ci := 11) rfl (by decide) (gsel (List.mem_of_getElem? (i := 41) rfl)) hob (by decide) rfl (Nat.le_of_ble_eq_true rfl) dX12_readRaft_427 rfl (kV fun hv9  hw => ?_)
    refine r_iconst (v := 1) C dX12_readRaft_430 (by decide) ?_
    exact r_zret C hr dX12_readRaft_431 hw.1 hw.2
  · replace hw := hw.2 hc
    refine r_sipush (v := 225) C dX12_readRaft_256 (by decide) ?_
    refine r_iconst (v := 3) C dX12_readRaft_259 (by decide) ?_
    refine r_iload C dX12_readRaft_260 5 rfl ?_
    refine r_imul C dX12_readRaft_262 ?_
    refine r_iadd C dX12_readRaft_263 ?_
    refine r_topi fun iv10 eiv10 => ?_
    replace hw := hw iv10 eiv10
    refine r_istore C dX12_readRaft_264 [(6, .int iv10), (0, .ref (G.1 + al0)), (1, .int xl1), (2, .int xl2), (3, .int xl3), (4, .int xl4), (5, .int xl5)] (by decide) rfl ?_
    refine r_iload_n C dX12_readRaft_266 4 rfl ?_
    refine r_aload_n C dX12_readRaft_267 1 rfl ?_
    have hob := hw.1
    obtain ⟨rv11, hp, hw⟩ := hw.2
    refine r_getP C fl_RX12_37_11 hob hp (fun _ _ _ => rfl) dX12_readRaft_268 ?_
    refine r_iload C dX12_readRaft_271 0 rfl ?_
    refine r_iaload C hw.1 hw.2.1 dX12_readRaft_273 ?_
    replace hw := hw.2.2
    refine r_aload_n C dX12_readRaft_274 1 rfl ?_
    have hob := hw.1
    obtain ⟨rv12, hp, hw⟩ := hw.2
    refine r_getP C fl_RX12_37_11 hob hp (fun _ _ _ => rfl) dX12_readRaft_275 ?_
    refine r_bipush (v := 99) C dX12_readRaft_278 (by decide) ?_
    refine r_iconst (v := 3) C dX12_readRaft_280 (by decide) ?_
    refine r_iload C dX12_readRaft_281 6 rfl ?_
    refine r_imul C dX12_readRaft_283 ?_
    refine r_iadd C dX12_readRaft_284 ?_
    refine r_iaload C hw.1 hw.2.1 dX12_readRaft_285 ?_
    replace hw := hw.2.2
    refine r_iadd C dX12_readRaft_286 ?_
    refine r_icmp_ge C dX12_readRaft_287 366 (by decide) (fun hc => ?_) (fun hc => ?_)
    · replace hw := hw.1 hc
      refine r_sub [1, 2, 3, 4, 5, 6] rfl ?_
      exact tb_X12_readRaft_366 C hr hK250 hw
    · replace hw := hw.2 hc
      refine r_aload_n C dX12_readRaft_290 1 rfl ?_
      have hob := hw.1
      obtain ⟨rv13, hp, hw⟩ := hw.2
      refine r_getP C fl_RX12_37_11 hob hp (fun _ _ _ => rfl) dX12_readRaft_291 ?_
      refine r_iload C dX12_readRaft_294 0 rfl ?_
      refine r_iaload C hw.1 hw.2.1 dX12_readRaft_296 ?_
      replace hw := hw.2.2
      refine r_iload_n C dX12_readRaft_297 4 rfl ?_
      refine r_aload_n C dX12_readRaft_298 1 rfl ?_
      have hob := hw.1
      obtain ⟨rv14, hp, hw⟩ := hw.2
      refine r_getP C fl_RX12_37_11 hob hp (fun _ _ _ => rfl) dX12_readRaft_299 ?_
      refine r_iload_n C dX12_readRaft_302 3 rfl ?_
      refine r_iaload C hw.1 hw.2.1 dX12_readRaft_303 ?_
      replace hw := hw.2.2
      refine r_iadd C dX12_readRaft_304 ?_
      refine r_icmp_ge C dX12_readRaft_305 366 (by decide) (fun hc => ?_) (fun hc => ?_)
      · replace hw := hw.1 hc
        refine r_sub [1, 2, 3, 4, 5, 6] rfl ?_
        exact tb_X12_readRaft_366 C hr hK250 hw
      · replace hw := hw.2 hc
        refine r_iload C dX12_readRaft_308 5 rfl ?_
        refine r_aload_n C dX12_readRaft_310 1 rfl ?_
        have hob := hw.1
        obtain ⟨rv15, hp, hw⟩ := hw.2
        refine r_getP C fl_RX12_37_11 hob hp (fun _ _ _ => rfl) dX12_readRaft_311 ?_
        refine r_iload C dX12_readRaft_314 0 rfl ?_
        refine r_iconst (v := 1) C dX12_readRaft_316 (by decide) ?_
        refine r_iadd C dX12_readRaft_317 ?_
        refine r_iaload C hw.1 hw.2.1 dX12_readRaft_318 ?_
        replace hw := hw.2.2
        refine r_aload_n C dX12_readRaft_319 1 rfl ?_
        have hob := hw.1
        obtain ⟨rv16, hp, hw⟩ := hw.2
        refine r_getP C fl_RX12_37_11 hob hp (fun _ _ _ => rfl) dX12_readRaft_320 ?_
        refine r_bipush (v := 99) C dX12_readRaft_323 (by decide) ?_
        refine r_iconst (v := 3) C dX12_readRaft_325 (by decide) ?_
        refine r_iload C dX12_readRaft_326 6 rfl ?_
        refine r_imul C dX12_readRaft_328 ?_
        refine r_iadd C dX12_readRaft_329 ?_
        refine r_iconst (v := 1) C dX12_readRaft_330 (by decide) ?_
        refine r_iadd C dX12_readRaft_331 ?_
        refine r_iaload C hw.1 hw.2.1 dX12_readRaft_332 ?_
        replace hw := hw.2.2
        refine r_iadd C dX12_readRaft_333 ?_
        refine r_icmp_ge C dX12_readRaft_334 366 (by decide) (fun hc => ?_) (fun hc => ?_)
        · replace hw := hw.1 hc
          refine r_sub [1, 2, 3, 4, 5, 6] rfl ?_
          exact tb_X12_readRaft_366 C hr hK250 hw
        · replace hw := hw.2 hc
          refine r_aload_n C dX12_readRaft_337 1 rfl ?_
          have hob := hw.1
          obtain ⟨rv17, hp, hw⟩ := hw.2
          refine r_getP C fl_RX12_37_11 hob hp (fun _ _ _ => rfl) dX12_readRaft_338 ?_
          refine r_iload C dX12_readRaft_341 0 rfl ?_
          refine r_iconst (v := 1) C dX12_readRaft_343 (by decide) ?_
          refine r_iadd C dX12_readRaft_344 ?_
          refine r_iaload C hw.1 hw.2.1 dX12_readRaft_345 ?_
          replace hw := hw.2.2
          refine r_iload C dX12_readRaft_346 5 rfl ?_
          refine r_aload_n C dX12_readRaft_348 1 rfl ?_
          have hob := hw.1
          obtain ⟨rv18, hp, hw⟩ := hw.2
          refine r_getP C fl_RX12_37_11 hob hp (fun _ _ _ => rfl) dX12_readRaft_349 ?_
          refine r_iload_n C dX12_readRaft_352 3 rfl ?_
          refine r_iconst (v := 1) C dX12_readRaft_353 (by decide) ?_
          refine r_iadd C dX12_readRaft_354 ?_
          refine r_iaload C hw.1 hw.2.1 dX12_readRaft_355 ?_
          replace hw := hw.2.2
          refine r_iadd C dX12_readRaft_356 ?_
          refine r_icmp_ge C dX12_readRaft_357 366 (by decide) (fun hc => ?_) (fun hc => ?_)
          · replace hw := hw.1 hc
            refine r_sub [1, 2, 3, 4, 5, 6] rfl ?_
            exact tb_X12_readRaft_366 C hr hK250 hw
          · replace hw := hw.2 hc
            refine r_aload_n C dX12_readRaft_360 1 rfl ?_
            refine r_iconst (v := 3) C dX12_readRaft_361 (by decide) ?_
            have hob := hw.1
            replace hw := hw.2
            refine r_callV C (As := [.int 3]) (rest := []) (c_X12_bad G h al0 3 _ hw) yl_X12_bad (gm7 (List.mem_of_getElem? (i := 177) rfl) rfl) (gm7 (List.mem_of_getElem? (i := 179) rfl) rfl) (ci := 11) rfl (by decide) (gsel (List.mem_of_getElem? (i := 46) rfl)) hob (by decide) rfl (Nat.le_of_ble_eq_true rfl) dX12_readRaft_362 rfl (kI fun hv19 iv20 hw => ?_)
            exact r_zret C hr dX12_readRaft_365 hw.1 hw.2
def wl_X12_readRaft_250  (post : AH → Int32 → Prop) : Nat → AH → Nat → Int32 → Int32 → Int32 → Int32 → Int32 → Prop
  | 0 => fun _ _ _ _ _ _ _ => False
  | n + 1 => fun h al0 xl1 xl2 xl3 xl4 xl5 => wb_X12_readRaft_250  (wl_X12_readRaft_250  post n) h al0 xl1 xl2 xl3 xl4 xl5 post
theorem tl_X12_readRaft_250 {G : GG} {p : Program} {l : Launch} {e : Env} {R : Room} {s : State} {m : MethodId} {args : Array Value} {below : List Frame} {meth : Method} {c : Code} {n0 s0 : Nat} {post : AH → Int32 → Prop} (C : Cx G p R s m args meth c 7 cX12_readRaft RX12 n0 s0 3 65) (hr : meth.sig.returnType = (some .boolean))   : ∀ (n : Nat) (h : AH) (al0 : Nat) (xl1 : Int32) (xl2 : Int32) (xl3 : Int32) (xl4 : Int32) (xl5 : Int32), wl_X12_readRaft_250  post n h al0 xl1 xl2 xl3 xl4 xl5 → AW G p l e R s m args below meth c 7 (QM G (pI post) args s below n0 s0) 250 [(0, .ref (G.1 + al0)), (1, .int xl1), (2, .int xl2), (3, .int xl3), (4, .int xl4), (5, .int xl5)] [] h := by
  intro n
  induction n with
  | zero => intro h al0 xl1 xl2 xl3 xl4 xl5 hw; exact hw.elim
  | succ n ih => intro h al0 xl1 xl2 xl3 xl4 xl5 hw; exact tb_X12_readRaft_250 C hr  ih hw
def wb_X12_readRaft_235  (h : AH) (al0 : Nat)  (post : AH → Int32 → Prop) : Prop := (ob h al0 11) ∧ wp_X12_bad h al0 2 (fun hv1 iv2 => (iv2 = 0 ∨ iv2 = 1) ∧ post hv1 iv2)
set_option maxRecDepth 100000 in
theorem tb_X12_readRaft_235 {G : GG} {p : Program} {l : Launch} {e : Env} {R : Room} {s : State} {m : MethodId} {args : Array Value} {below : List Frame} {meth : Method} {c : Code} {n0 s0 : Nat} {post : AH → Int32 → Prop} (C : Cx G p R s m args meth c 7 cX12_readRaft RX12 n0 s0 3 65) (hr : meth.sig.returnType = (some .boolean))   {h : AH} {al0 : Nat}  (hw : wb_X12_readRaft_235  h al0 post) : AW G p l e R s m args below meth c 7 (QM G (pI post) args s below n0 s0) 235 [(0, .ref (G.1 + al0))] [] h := by
  unfold wb_X12_readRaft_235 at hw
  refine r_aload_n C dX12_readRaft_235 0 rfl ?_
  refine r_iconst (v := 2) C dX12_readRaft_236 (by decide) ?_
  have hob := hw.1
  replace hw := hw.2
  refine r_callV C (As := [.int 2]) (rest := []) (c_X12_bad G h al0 2 _ hw) yl_X12_bad (gm7 (List.mem_of_getElem? (i := 177) rfl) rfl) (gm7 (List.mem_of_getElem? (i := 179) rfl) rfl) (ci := 11) rfl (by decide) (gsel (List.mem_of_getElem? (i := 46) rfl)) hob (by decide) rfl (Nat.le_of_ble_eq_true rfl) dX12_readRaft_237 rfl (kI fun hv1 iv2 hw => ?_)
  exact r_zret C hr dX12_readRaft_240 hw.1 hw.2
set_option maxRecDepth 100000 in
def wp_X12_readRaft (h : AH) (a0 : Nat) (post : AH → Int32 → Prop) : Prop := (ob h a0 11) ∧ (∃ rv1, aP h a0 7 = some rv1 ∧ ((ob h rv1 13) ∧ ((vp_in 2 (aL h rv1)) ∧ (∀ iv2 : Int32, iv2 = aI h rv1 (2 : Int32).toNatClampNeg → ((¬ iv2 = 8 → ((ob h a0 11) ∧ wp_X12_next h a0  (fun hv3  => (ob hv3 a0 11) ∧ wp_X12_isName hv3 a0  (fun hv4 iv5 => (¬ iv5 = 0 → ((ob hv4 a0 11) ∧ wp_X12_find hv4 a0 8 iv2 (fun hv6 iv7 => (iv7 < 0 → ((ob hv6 a0 11) ∧ (∃ rv8, aP hv6 a0 9 = some rv8 ∧ ((ob hv6 a0 11) ∧ ((ob hv6 rv8 14) ∧ ((vp_in ((8 : Int32) + iv2) (aL hv6 rv8)) ∧ (∀ hv9 : AH, hv9 = hJ hv6 rv8 ((8 : Int32) + iv2).toNatClampNeg (aJ hv6 a0 17) → ((ob hv9 a0 11) ∧ wp_X12_next hv9 a0  (fun hv10  => ∀ iv11 : Int32, iv11 = (99 : Int32) + ((3 : Int32) * iv2) → ((ob hv10 a0 11) ∧ wp_X12_takes hv10 a0 1 3 (fun hv12 iv13 => (¬ iv13 = 0 → ((ob hv12 a0 11) ∧ (∃ rv14, aP hv12 a0 7 = some rv14 ∧ ((ob hv12 a0 11) ∧ ((ob hv12 rv14 13) ∧ ((vp_in iv11 (aL hv12 rv14)) ∧ (∀ hv15 : AH, hv15 = hI hv12 rv14 iv11.toNatClampNeg (aI hv12 a0 18) → ((ob hv15 a0 11) ∧ wp_X12_takes hv15 a0 1 3 (fun hv16 iv17 => (¬ iv17 = 0 → ((ob hv16 a0 11) ∧ (∃ rv18, aP hv16 a0 7 = some rv18 ∧ ((ob hv16 a0 11) ∧ ((ob hv16 rv18 13) ∧ ((vp_in (iv11 + (1 : Int32)) (aL hv16 rv18)) ∧ (∀ hv19 : AH, hv19 = hI hv16 rv18 (iv11 + (1 : Int32)).toNatClampNeg (aI hv16 a0 18) → ((ob hv19 a0 11) ∧ wp_X12_takes hv19 a0 0 9 (fun hv20 iv21 => (¬ iv21 = 0 → ((ob hv20 a0 11) ∧ (∃ rv22, aP hv20 a0 7 = some rv22 ∧ ((ob hv20 a0 11) ∧ ((ob hv20 rv22 13) ∧ ((vp_in (iv11 + (2 : Int32)) (aL hv20 rv22)) ∧ (∀ hv23 : AH, hv23 = hI hv20 rv22 (iv11 + (2 : Int32)).toNatClampNeg (aI hv20 a0 18) → ((ob hv23 a0 11) ∧ (∃ rv24, aP hv23 a0 7 = some rv24 ∧ ((ob hv23 rv24 13) ∧ ((vp_in 0 (aL hv23 rv24)) ∧ ((ob hv23 a0 11) ∧ wp_X12_takes hv23 a0 0 ((aI hv23 rv24 (0 : Int32).toNatClampNeg) - (1 : Int32)) (fun hv25 iv26 => (¬ iv26 = 0 → ((ob hv25 a0 11) ∧ (∀ iv27 : Int32, iv27 = aI hv25 a0 18 → ((ob hv25 a0 11) ∧ (((aI hv25 a0 11) = 2 → ((ob hv25 a0 11) ∧ ((ob hv25 a0 11) ∧ (∃ rv28, aP hv25 a0 7 = some rv28 ∧ ((ob hv25 rv28 13) ∧ ((vp_in 1 (aL hv25 rv28)) ∧ ((((aI hv25 rv28 (1 : Int32).toNatClampNeg) - (1 : Int32)) < (aI hv25 a0 14) → (wb_X12_readRaft_235  hv25 a0 post)) ∧ (¬ ((aI hv25 rv28 (1 : Int32).toNatClampNeg) - (1 : Int32)) < (aI hv25 a0 14) → ((ob hv25 a0 11) ∧ (∃ rv29, aP hv25 a0 7 = some rv29 ∧ ((ob hv25 rv29 13) ∧ ((vp_in iv11 (aL hv25 rv29)) ∧ ((ob hv25 a0 11) ∧ (∃ rv30, aP hv25 a0 7 = some rv30 ∧ ((ob hv25 rv30 13) ∧ ((vp_in 0 (aL hv25 rv30)) ∧ (((aI hv25 rv30 (0 : Int32).toNatClampNeg) < (iv27 + (aI hv25 rv29 iv11.toNatClampNeg)) → (wb_X12_readRaft_235  hv25 a0 post)) ∧ (¬ (aI hv25 rv30 (0 : Int32).toNatClampNeg) < (iv27 + (aI hv25 rv29 iv11.toNatClampNeg)) → ((ob hv25 a0 11) ∧ ((ob hv25 a0 11) ∧ (∃ rv31, aP hv25 a0 7 = some rv31 ∧ ((ob hv25 rv31 13) ∧ ((vp_in (iv11 + (1 : Int32)) (aL hv25 rv31)) ∧ ((ob hv25 a0 11) ∧ (∃ rv32, aP hv25 a0 7 = some rv32 ∧ ((ob hv25 rv32 13) ∧ ((vp_in 1 (aL hv25 rv32)) ∧ ((((aI hv25 a0 14) + (aI hv25 rv31 (iv11 + (1 : Int32)).toNatClampNeg)) ≤ (aI hv25 rv32 (1 : Int32).toNatClampNeg) → ((ob hv25 a0 11) ∧ (∀ iv33 : Int32, iv33 = aI hv25 a0 14 → (∃ n, wl_X12_readRaft_250  post n hv25 a0 iv2 iv11 iv27 iv33 0)))) ∧ (¬ ((aI hv25 a0 14) + (aI hv25 rv31 (iv11 + (1 : Int32)).toNatClampNeg)) ≤ (aI hv25 rv32 (1 : Int32).toNatClampNeg) → (wb_X12_readRaft_235  hv25 a0 post)))))))))))))))))))))))))))))) ∧ (¬ (aI hv25 a0 11) = 2 → ((ob hv25 a0 11) ∧ wp_X12_bad hv25 a0 1 (fun hv34 iv35 => (iv35 = 0 ∨ iv35 = 1) ∧ post hv34 iv35)))))))) ∧ (iv26 = 0 → (((0 : Int32) = 0 ∨ (0 : Int32) = 1) ∧ post hv25 0))))))))))))))) ∧ (iv21 = 0 → (((0 : Int32) = 0 ∨ (0 : Int32) = 1) ∧ post hv20 0))))))))))) ∧ (iv17 = 0 → (((0 : Int32) = 0 ∨ (0 : Int32) = 1) ∧ post hv16 0))))))))))) ∧ (iv13 = 0 → (((0 : Int32) = 0 ∨ (0 : Int32) = 1) ∧ post hv12 0))))))))))))) ∧ (¬ iv7 < 0 → ((ob hv6 a0 11) ∧ wp_X12_bad hv6 a0 3 (fun hv36 iv37 => (iv37 = 0 ∨ iv37 = 1) ∧ post hv36 iv37)))))) ∧ (iv5 = 0 → ((ob hv4 a0 11) ∧ wp_X12_bad hv4 a0 1 (fun hv38 iv39 => (iv39 = 0 ∨ iv39 = 1) ∧ post hv38 iv39))))))) ∧ (iv2 = 8 → ((ob h a0 11) ∧ wp_X12_bad h a0 4 (fun hv40 iv41 => (iv41 = 0 ∨ iv41 = 1) ∧ post hv40 iv41))))))))
set_option maxRecDepth 100000 in
theorem c_X12_readRaft (G : GG) (h : AH) (a0 : Nat) (post : AH → Int32 → Prop) (hw : wp_X12_readRaft h a0 post) : MC G yX12_readRaft cX12_readRaft 7 (some .boolean) 3 65 h [.ref (G.1 + a0)] (pI post) := by
  refine MC.of (lv := [(0, .ref (G.1 + a0))]) (by decide) (Nat.le_of_ble_eq_true rfl) rfl fun p l e R s m args below meth c C hr hnm => ?_
  unfold wp_X12_readRaft at hw
  refine r_aload_n C dX12_readRaft_0 0 rfl ?_
  have hob := hw.1
  obtain ⟨rv1, hp, hw⟩ := hw.2
  refine r_getP C fl_RX12_37_11 hob hp (fun _ _ _ => rfl) dX12_readRaft_1 ?_
  refine r_iconst (v := 2) C dX12_readRaft_4 (by decide) ?_
  refine r_iaload C hw.1 hw.2.1 dX12_readRaft_5 ?_
  replace hw := hw.2.2
  refine r_topi fun iv2 eiv2 => ?_
  replace hw := hw iv2 eiv2
  refine r_istore_n C dX12_readRaft_6 [(1, .int iv2), (0, .ref (G.1 + a0))] (by decide) rfl ?_
  refine r_iload_n C dX12_readRaft_7 0 rfl ?_
  refine r_bipush (v := 8) C dX12_readRaft_8 (by decide) ?_
  refine r_icmp_ne C dX12_readRaft_10 19 (by decide) (fun hc => ?_) (fun hc => ?_)
  · replace hw := hw.1 hc
    refine r_aload_n C dX12_readRaft_19 1 rfl ?_
    have hob := hw.1
    replace hw := hw.2
    refine r_callV C (As := []) (rest := []) (c_X12_next G h a0  _ hw) yl_X12_next (gm7 (List.mem_of_getElem? (i := 151) rfl) rfl) (gm7 (List.mem_of_getElem? (i := 153) rfl) rfl) (ci := 11) rfl (by decide) (gsel (List.mem_of_getElem? (i := 41) rfl)) hob (by decide) rfl (Nat.le_of_ble_eq_true rfl) dX12_readRaft_20 rfl (kV fun hv3  hw => ?_)
    refine r_aload_n C dX12_readRaft_23 1 rfl ?_
    have hob := hw.1
    replace hw := hw.2
    refine r_callV C (As := []) (rest := []) (c_X12_isName G hv3 a0  _ hw) yl_X12_isName (gm7 (List.mem_of_getElem? (i := 203) rfl) rfl) (gm7 (List.mem_of_getElem? (i := 205) rfl) rfl) (ci := 11) rfl (by decide) (gsel (List.mem_of_getElem? (i := 51) rfl)) hob (by decide) rfl (Nat.le_of_ble_eq_true rfl) dX12_readRaft_24 rfl (kI fun hv4 iv5 hw => ?_)
    refine r_if_ne C dX12_readRaft_27 36 (by decide) (fun hc => ?_) (fun hc => ?_)
    · replace hw := hw.1 hc
      refine r_aload_n C dX12_readRaft_36 1 rfl ?_
      refine r_bipush (v := 8) C dX12_readRaft_37 (by decide) ?_
      refine r_iload_n C dX12_readRaft_39 0 rfl ?_
      have hob := hw.1
      replace hw := hw.2
      refine r_callV C (As := [.int 8, .int iv2]) (rest := []) (c_X12_find G hv4 a0 8 iv2 _ hw) yl_X12_find (gm7 (List.mem_of_getElem? (i := 207) rfl) rfl) (gm7 (List.mem_of_getElem? (i := 209) rfl) rfl) (ci := 11) rfl (by decide) (gsel (List.mem_of_getElem? (i := 52) rfl)) hob (by decide) rfl (Nat.le_of_ble_eq_true rfl) dX12_readRaft_40 rfl (kI fun hv6 iv7 hw => ?_)
      refine r_if_lt C dX12_readRaft_43 52 (by decide) (fun hc => ?_) (fun hc => ?_)
      · replace hw := hw.1 hc
        refine r_aload_n C dX12_readRaft_52 1 rfl ?_
        have hob := hw.1
        obtain ⟨rv8, hp, hw⟩ := hw.2
        refine r_getP C fl_RX12_43_11 hob hp (fun _ _ _ => rfl) dX12_readRaft_53 ?_
        refine r_bipush (v := 8) C dX12_readRaft_56 (by decide) ?_
        refine r_iload_n C dX12_readRaft_58 0 rfl ?_
        refine r_iadd C dX12_readRaft_59 ?_
        refine r_aload_n C dX12_readRaft_60 1 rfl ?_
        refine r_getJ C fl_RX12_177_11 hw.1 (fun _ _ _ => rfl) dX12_readRaft_61 ?_
        replace hw := hw.2
        refine r_lastore C hw.1 hw.2.1 dX12_readRaft_64 ?_
        replace hw := hw.2.2
        refine r_toph fun hv9 ehv9 => ?_
        replace hw := hw hv9 ehv9
        refine r_aload_n C dX12_readRaft_65 1 rfl ?_
        have hob := hw.1
        replace hw := hw.2
        refine r_callV C (As := []) (rest := []) (c_X12_next G hv9 a0  _ hw) yl_X12_next (gm7 (List.mem_of_getElem? (i := 151) rfl) rfl) (gm7 (List.mem_of_getElem? (i := 153) rfl) rfl) (ci := 11) rfl (by decide) (gsel (List.mem_of_getElem? (i := 41) rfl)) hob (by decide) rfl (Nat.le_of_ble_eq_true rfl) dX12_readRaft_66 rfl (kV fun hv10  hw => ?_)
        refine r_bipush (v := 99) C dX12_readRaft_69 (by decide) ?_
        refine r_iconst (v := 3) C dX12_readRaft_71 (by decide) ?_
        refine r_iload_n C dX12_readRaft_72 0 rfl ?_
        refine r_imul C dX12_readRaft_73 ?_
        refine r_iadd C dX12_readRaft_74 ?_
        refine r_topi fun iv11 eiv11 => ?_
        replace hw := hw iv11 eiv11
        refine r_istore_n C dX12_readRaft_75 [(2, .int iv11), (1, .int iv2), (0, .ref (G.1 + a0))] (by decide) rfl ?_
        refine r_aload_n C dX12_readRaft_76 2 rfl ?_
        refine r_iconst (v := 1) C dX12_readRaft_77 (by decide) ?_
        refine r_iconst (v := 3) C dX12_readRaft_78 (by decide) ?_
        have hob := hw.1
        replace hw := hw.2
        refine r_callV C (As := [.int 1, .int 3]) (rest := []) (c_X12_takes G hv10 a0 1 3 _ hw) yl_X12_takes (gm7 (List.mem_of_getElem? (i := 195) rfl) rfl) (gm7 (List.mem_of_getElem? (i := 197) rfl) rfl) (ci := 11) rfl (by decide) (gsel (List.mem_of_getElem? (i := 49) rfl)) hob (by decide) rfl (Nat.le_of_ble_eq_true rfl) dX12_readRaft_79 rfl (kI fun hv12 iv13 hw => ?_)
        refine r_if_ne C dX12_readRaft_82 87 (by decide) (fun hc => ?_) (fun hc => ?_)
        · replace hw := hw.1 hc
          refine r_aload_n C dX12_readRaft_87 2 rfl ?_
          have hob := hw.1
          obtain ⟨rv14, hp, hw⟩ := hw.2
          refine r_getP C fl_RX12_37_11 hob hp (fun _ _ _ => rfl) dX12_readRaft_88 ?_
          refine r_iload_n C dX12_readRaft_91 0 rfl ?_
          refine r_aload_n C dX12_readRaft_92 2 rfl ?_
          refine r_getI C fl_RX12_200_11 hw.1 (fun _ _ _ => rfl) dX12_readRaft_93 ?_
          replace hw := hw.2
          refine r_iastore C hw.1 hw.2.1 dX12_readRaft_96 ?_
          replace hw := hw.2.2
          refine r_toph fun hv15 ehv15 => ?_
          replace hw := hw hv15 ehv15
          refine r_aload_n C dX12_readRaft_97 2 rfl ?_
          refine r_iconst (v := 1) C dX12_readRaft_98 (by decide) ?_
          refine r_iconst (v := 3) C dX12_readRaft_99 (by decide) ?_
          have hob := hw.1
          replace hw := hw.2
          refine r_callV C (As := [.int 1, .int 3]) (rest := []) (c_X12_takes G hv15 a0 1 3 _ hw) yl_X12_takes (gm7 (List.mem_of_getElem? (i := 195) rfl) rfl) (gm7 (List.mem_of_getElem? (i := 197) rfl) rfl) (ci := 11) rfl (by decide) (gsel (List.mem_of_getElem? (i := 49) rfl)) hob (by decide) rfl (Nat.le_of_ble_eq_true rfl) dX12_readRaft_100 rfl (kI fun hv16 iv17 hw => ?_)
          refine r_if_ne C dX12_readRaft_103 108 (by decide) (fun hc => ?_) (fun hc => ?_)
          · replace hw := hw.1 hc
            refine r_aload_n C dX12_readRaft_108 2 rfl ?_
            have hob := hw.1
            obtain ⟨rv18, hp, hw⟩ := hw.2
            refine r_getP C fl_RX12_37_11 hob hp (fun _ _ _ => rfl) dX12_readRaft_109 ?_
            refine r_iload_n C dX12_readRaft_112 0 rfl ?_
            refine r_iconst (v := 1) C dX12_readRaft_113 (by decide) ?_
            refine r_iadd C dX12_readRaft_114 ?_
            refine r_aload_n C dX12_readRaft_115 2 rfl ?_
            refine r_getI C fl_RX12_200_11 hw.1 (fun _ _ _ => rfl) dX12_readRaft_116 ?_
            replace hw := hw.2
            refine r_iastore C hw.1 hw.2.1 dX12_readRaft_119 ?_
            replace hw := hw.2.2
            refine r_toph fun hv19 ehv19 => ?_
            replace hw := hw hv19 ehv19
            refine r_aload_n C dX12_readRaft_120 2 rfl ?_
            refine r_iconst (v := 0) C dX12_readRaft_121 (by decide) ?_
            refine r_bipush (v := 9) C dX12_readRaft_122 (by decide) ?_
            have hob := hw.1
            replace hw := hw.2
            refine r_callV C (As := [.int 0, .int 9]) (rest := []) (c_X12_takes G hv19 a0 0 9 _ hw) yl_X12_takes (gm7 (List.mem_of_getElem? (i := 195) rfl) rfl) (gm7 (List.mem_of_getElem? (i := 197) rfl) rfl) (ci := 11) rfl (by decide) (gsel (List.mem_of_getElem? (i := 49) rfl)) hob (by decide) rfl (Nat.le_of_ble_eq_true rfl) dX12_readRaft_124 rfl (kI fun hv20 iv21 hw => ?_)
            refine r_if_ne C dX12_readRaft_127 132 (by decide) (fun hc => ?_) (fun hc => ?_)
            · replace hw := hw.1 hc
              refine r_aload_n C dX12_readRaft_132 2 rfl ?_
              have hob := hw.1
              obtain ⟨rv22, hp, hw⟩ := hw.2
              refine r_getP C fl_RX12_37_11 hob hp (fun _ _ _ => rfl) dX12_readRaft_133 ?_
              refine r_iload_n C dX12_readRaft_136 0 rfl ?_
              refine r_iconst (v := 2) C dX12_readRaft_137 (by decide) ?_
              refine r_iadd C dX12_readRaft_138 ?_
              refine r_aload_n C dX12_readRaft_139 2 rfl ?_
              refine r_getI C fl_RX12_200_11 hw.1 (fun _ _ _ => rfl) dX12_readRaft_140 ?_
              replace hw := hw.2
              refine r_iastore C hw.1 hw.2.1 dX12_readRaft_143 ?_
              replace hw := hw.2.2
              refine r_toph fun hv23 ehv23 => ?_
              replace hw := hw hv23 ehv23
              refine r_aload_n C dX12_readRaft_144 2 rfl ?_
              refine r_iconst (v := 0) C dX12_readRaft_145 (by decide) ?_
              refine r_aload_n C dX12_readRaft_146 2 rfl ?_
              have hob := hw.1
              obtain ⟨rv24, hp, hw⟩ := hw.2
              refine r_getP C fl_RX12_37_11 hob hp (fun _ _ _ => rfl) dX12_readRaft_147 ?_
              refine r_iconst (v := 0) C dX12_readRaft_150 (by decide) ?_
              refine r_iaload C hw.1 hw.2.1 dX12_readRaft_151 ?_
              replace hw := hw.2.2
              refine r_iconst (v := 1) C dX12_readRaft_152 (by decide) ?_
              refine r_isub C dX12_readRaft_153 ?_
              have hob := hw.1
              replace hw := hw.2
              refine r_callV C (As := [.int 0, .int ((aI hv23 rv24 (0 : Int32).toNatClampNeg) - (1 : Int32))]) (rest := []) (c_X12_takes G hv23 a0 0 ((aI hv23 rv24 (0 : Int32).toNatClampNeg) - (1 : Int32)) _ hw) yl_X12_takes (gm7 (List.mem_of_getElem? (i := 195) rfl) rfl) (gm7 (List.mem_of_getElem? (i := 197) rfl) rfl) (ci := 11) rfl (by decide) (gsel (List.mem_of_getElem? (i := 49) rfl)) hob (by decide) rfl (Nat.le_of_ble_eq_true rfl) dX12_readRaft_154 rfl (kI fun hv25 iv26 hw => ?_)
              refine r_if_ne C dX12_readRaft_157 162 (by decide) (fun hc => ?_) (fun hc => ?_)
              · replace hw := hw.1 hc
                refine r_aload_n C dX12_readRaft_162 2 rfl ?_
                refine r_getI C fl_RX12_200_11 hw.1 (fun _ _ _ => rfl) dX12_readRaft_163 ?_
                replace hw := hw.2
                refine r_topi fun iv27 eiv27 => ?_
                replace hw := hw iv27 eiv27
                refine r_istore_n C dX12_readRaft_166 [(3, .int iv27), (2, .int iv11), (1, .int iv2), (0, .ref (G.1 + a0))] (by decide) rfl ?_
                refine r_aload_n C dX12_readRaft_167 3 rfl ?_
                refine r_getI C fl_RX12_164_11 hw.1 (fun _ _ _ => rfl) dX12_readRaft_168 ?_
                replace hw := hw.2
                refine r_iconst (v := 2) C dX12_readRaft_171 (by decide) ?_
                refine r_icmp_eq C dX12_readRaft_172 181 (by decide) (fun hc => ?_) (fun hc => ?_)
                · replace hw := hw.1 hc
                  refine r_aload_n C dX12_readRaft_181 3 rfl ?_
                  refine r_getI C fl_RX12_174_11 hw.1 (fun _ _ _ => rfl) dX12_readRaft_182 ?_
                  replace hw := hw.2
                  refine r_aload_n C dX12_readRaft_185 3 rfl ?_
                  have hob := hw.1
                  obtain ⟨rv28, hp, hw⟩ := hw.2
                  refine r_getP C fl_RX12_37_11 hob hp (fun _ _ _ => rfl) dX12_readRaft_186 ?_
                  refine r_iconst (v := 1) C dX12_readRaft_189 (by decide) ?_
                  refine r_iaload C hw.1 hw.2.1 dX12_readRaft_190 ?_
                  replace hw := hw.2.2
                  refine r_iconst (v := 1) C dX12_readRaft_191 (by decide) ?_
                  refine r_isub C dX12_readRaft_192 ?_
                  refine r_icmp_gt C dX12_readRaft_193 235 (by decide) (fun hc => ?_) (fun hc => ?_)
                  · replace hw := hw.1 hc
                    refine r_sub [3] rfl ?_
                    exact tb_X12_readRaft_235 C hr  hw
                  · replace hw := hw.2 hc
                    refine r_iload_n C dX12_readRaft_196 0 rfl ?_
                    refine r_aload_n C dX12_readRaft_197 3 rfl ?_
                    have hob := hw.1
                    obtain ⟨rv29, hp, hw⟩ := hw.2
                    refine r_getP C fl_RX12_37_11 hob hp (fun _ _ _ => rfl) dX12_readRaft_198 ?_
                    refine r_iload_n C dX12_readRaft_201 1 rfl ?_
                    refine r_iaload C hw.1 hw.2.1 dX12_readRaft_202 ?_
                    replace hw := hw.2.2
                    refine r_iadd C dX12_readRaft_203 ?_
                    refine r_aload_n C dX12_readRaft_204 3 rfl ?_
                    have hob := hw.1
                    obtain ⟨rv30, hp, hw⟩ := hw.2
                    refine r_getP C fl_RX12_37_11 hob hp (fun _ _ _ => rfl) dX12_readRaft_205 ?_
                    refine r_iconst (v := 0) C dX12_readRaft_208 (by decide) ?_
                    refine r_iaload C hw.1 hw.2.1 dX12_readRaft_209 ?_
                    replace hw := hw.2.2
                    refine r_icmp_gt C dX12_readRaft_210 235 (by decide) (fun hc => ?_) (fun hc => ?_)
                    · replace hw := hw.1 hc
                      refine r_sub [3] rfl ?_
                      exact tb_X12_readRaft_235 C hr  hw
                    · replace hw := hw.2 hc
                      refine r_aload_n C dX12_readRaft_213 3 rfl ?_
                      refine r_getI C fl_RX12_174_11 hw.1 (fun _ _ _ => rfl) dX12_readRaft_214 ?_
                      replace hw := hw.2
                      refine r_aload_n C dX12_readRaft_217 3 rfl ?_
                      have hob := hw.1
                      obtain ⟨rv31, hp, hw⟩ := hw.2
                      refine r_getP C fl_RX12_37_11 hob hp (fun _ _ _ => rfl) dX12_readRaft_218 ?_
                      refine r_iload_n C dX12_readRaft_221 1 rfl ?_
                      refine r_iconst (v := 1) C dX12_readRaft_222 (by decide) ?_
                      refine r_iadd C dX12_readRaft_223 ?_
                      refine r_iaload C hw.1 hw.2.1 dX12_readRaft_224 ?_
                      replace hw := hw.2.2
                      refine r_iadd C dX12_readRaft_225 ?_
                      refine r_aload_n C dX12_readRaft_226 3 rfl ?_
                      have hob := hw.1
                      obtain ⟨rv32, hp, hw⟩ := hw.2
                      refine r_getP C fl_RX12_37_11 hob hp (fun _ _ _ => rfl) dX12_readRaft_227 ?_
                      refine r_iconst (v := 1) C dX12_readRaft_230 (by decide) ?_
                      refine r_iaload C hw.1 hw.2.1 dX12_readRaft_231 ?_
                      replace hw := hw.2.2
                      refine r_icmp_le C dX12_readRaft_232 241 (by decide) (fun hc => ?_) (fun hc => ?_)
                      · replace hw := hw.1 hc
                        refine r_aload_n C dX12_readRaft_241 3 rfl ?_
                        refine r_getI C fl_RX12_174_11 hw.1 (fun _ _ _ => rfl) dX12_readRaft_242 ?_
                        replace hw := hw.2
                        refine r_topi fun iv33 eiv33 => ?_
                        replace hw := hw iv33 eiv33
                        refine r_istore C dX12_readRaft_245 [(4, .int iv33), (3, .int iv27), (2, .int iv11), (1, .int iv2), (0, .ref (G.1 + a0))] (by decide) rfl ?_
                        refine r_iconst (v := 0) C dX12_readRaft_247 (by decide) ?_
                        refine r_istore C dX12_readRaft_248 [(5, .int 0), (4, .int iv33), (3, .int iv27), (2, .int iv11), (1, .int iv2), (0, .ref (G.1 + a0))] (by decide) rfl ?_
                        refine r_sub [5, 4, 3, 2, 1, 0] rfl ?_
                        obtain ⟨n, hw⟩ := hw
                        exact tl_X12_readRaft_250 C hr  n _ _ _ _ _ _ _ hw
                      · replace hw := hw.2 hc
                        refine r_sub [3] rfl ?_
                        exact tb_X12_readRaft_235 C hr  hw
                · replace hw := hw.2 hc
                  refine r_aload_n C dX12_readRaft_175 3 rfl ?_
                  refine r_iconst (v := 1) C dX12_readRaft_176 (by decide) ?_
                  have hob := hw.1
                  replace hw := hw.2
                  refine r_callV C (As := [.int 1]) (rest := []) (c_X12_bad G hv25 a0 1 _ hw) yl_X12_bad (gm7 (List.mem_of_getElem? (i := 177) rfl) rfl) (gm7 (List.mem_of_getElem? (i := 179) rfl) rfl) (ci := 11) rfl (by decide) (gsel (List.mem_of_getElem? (i := 46) rfl)) hob (by decide) rfl (Nat.le_of_ble_eq_true rfl) dX12_readRaft_177 rfl (kI fun hv34 iv35 hw => ?_)
                  exact r_zret C hr dX12_readRaft_180 hw.1 hw.2
              · replace hw := hw.2 hc
                refine r_iconst (v := 0) C dX12_readRaft_160 (by decide) ?_
                exact r_zret C hr dX12_readRaft_161 hw.1 hw.2
            · replace hw := hw.2 hc
              refine r_iconst (v := 0) C dX12_readRaft_130 (by decide) ?_
              exact r_zret C hr dX12_readRaft_131 hw.1 hw.2
          · replace hw := hw.2 hc
            refine r_iconst (v := 0) C dX12_readRaft_106 (by decide) ?_
            exact r_zret C hr dX12_readRaft_107 hw.1 hw.2
        · replace hw := hw.2 hc
          refine r_iconst (v := 0) C dX12_readRaft_85 (by decide) ?_
          exact r_zret C hr dX12_readRaft_86 hw.1 hw.2
      · replace hw := hw.2 hc
        refine r_aload_n C dX12_readRaft_46 1 rfl ?_
        refine r_iconst (v := 3) C dX12_readRaft_47 (by decide) ?_
        have hob := hw.1
        replace hw := hw.2
        refine r_callV C (As := [.int 3]) (rest := []) (c_X12_bad G hv6 a0 3 _ hw) yl_X12_bad (gm7 (List.mem_of_getElem? (i := 177) rfl) rfl) (gm7 (List.mem_of_getElem? (i := 179) rfl) rfl) (ci := 11) rfl (by decide) (gsel (List.mem_of_getElem? (i := 46) rfl)) hob (by decide) rfl (Nat.le_of_ble_eq_true rfl) dX12_readRaft_48 rfl (kI fun hv36 iv37 hw => ?_)
        exact r_zret C hr dX12_readRaft_51 hw.1 hw.2
    · replace hw := hw.2 hc
      refine r_aload_n C dX12_readRaft_30 1 rfl ?_
      refine r_iconst (v := 1) C dX12_readRaft_31 (by decide) ?_
      have hob := hw.1
      replace hw := hw.2
      refine r_callV C (As := [.int 1]) (rest := []) (c_X12_bad G hv4 a0 1 _ hw) yl_X12_bad (gm7 (List.mem_of_getElem? (i := 177) rfl) rfl) (gm7 (List.mem_of_getElem? (i := 179) rfl) rfl) (ci := 11) rfl (by decide) (gsel (List.mem_of_getElem? (i := 46) rfl)) hob (by decide) rfl (Nat.le_of_ble_eq_true rfl) dX12_readRaft_32 rfl (kI fun hv38 iv39 hw => ?_)
      exact r_zret C hr dX12_readRaft_35 hw.1 hw.2
  · replace hw := hw.2 hc
    refine r_aload_n C dX12_readRaft_13 1 rfl ?_
    refine r_iconst (v := 4) C dX12_readRaft_14 (by decide) ?_
    have hob := hw.1
    replace hw := hw.2
    refine r_callV C (As := [.int 4]) (rest := []) (c_X12_bad G h a0 4 _ hw) yl_X12_bad (gm7 (List.mem_of_getElem? (i := 177) rfl) rfl) (gm7 (List.mem_of_getElem? (i := 179) rfl) rfl) (ci := 11) rfl (by decide) (gsel (List.mem_of_getElem? (i := 46) rfl)) hob (by decide) rfl (Nat.le_of_ble_eq_true rfl) dX12_readRaft_15 rfl (kI fun hv40 iv41 hw => ?_)
    exact r_zret C hr dX12_readRaft_18 hw.1 hw.2
theorem dX12_readPole_0 : decode cX12_readPole 0 = .ok (.aload_n 0, 1) := by decide +kernel
theorem dX12_readPole_1 : decode cX12_readPole 1 = .ok (.getfield 37, 3) := by decide +kernel
theorem dX12_readPole_4 : decode cX12_readPole 4 = .ok (.iconst 3, 1) := by decide +kernel
theorem dX12_readPole_5 : decode cX12_readPole 5 = .ok (.iaload, 1) := by decide +kernel
theorem dX12_readPole_6 : decode cX12_readPole 6 = .ok (.istore_n 1, 1) := by decide +kernel
theorem dX12_readPole_7 : decode cX12_readPole 7 = .ok (.iload_n 1, 1) := by decide +kernel
theorem dX12_readPole_8 : decode cX12_readPole 8 = .ok (.bipush 6, 2) := by decide +kernel
theorem dX12_readPole_10 : decode cX12_readPole 10 = .ok (.if_icmp .ne 9, 3) := by decide +kernel
theorem dX12_readPole_13 : decode cX12_readPole 13 = .ok (.aload_n 0, 1) := by decide +kernel
theorem dX12_readPole_14 : decode cX12_readPole 14 = .ok (.iconst 4, 1) := by decide +kernel
theorem dX12_readPole_15 : decode cX12_readPole 15 = .ok (.invokevirtual 190, 3) := by decide +kernel
theorem dX12_readPole_18 : decode cX12_readPole 18 = .ok (.ireturn, 1) := by decide +kernel
theorem dX12_readPole_19 : decode cX12_readPole 19 = .ok (.aload_n 0, 1) := by decide +kernel
theorem dX12_readPole_20 : decode cX12_readPole 20 = .ok (.invokevirtual 193, 3) := by decide +kernel
theorem dX12_readPole_23 : decode cX12_readPole 23 = .ok (.aload_n 0, 1) := by decide +kernel
theorem dX12_readPole_24 : decode cX12_readPole 24 = .ok (.iconst 0, 1) := by decide +kernel
theorem dX12_readPole_25 : decode cX12_readPole 25 = .ok (.aload_n 0, 1) := by decide +kernel
theorem dX12_readPole_26 : decode cX12_readPole 26 = .ok (.getfield 37, 3) := by decide +kernel
theorem dX12_readPole_29 : decode cX12_readPole 29 = .ok (.iconst 0, 1) := by decide +kernel
theorem dX12_readPole_30 : decode cX12_readPole 30 = .ok (.iaload, 1) := by decide +kernel
theorem dX12_readPole_31 : decode cX12_readPole 31 = .ok (.iconst 1, 1) := by decide +kernel
theorem dX12_readPole_32 : decode cX12_readPole 32 = .ok (.isub, 1) := by decide +kernel
theorem dX12_readPole_33 : decode cX12_readPole 33 = .ok (.invokevirtual 211, 3) := by decide +kernel
theorem dX12_readPole_36 : decode cX12_readPole 36 = .ok (.ifCond .ne 5, 3) := by decide +kernel
theorem dX12_readPole_39 : decode cX12_readPole 39 = .ok (.iconst 0, 1) := by decide +kernel
theorem dX12_readPole_40 : decode cX12_readPole 40 = .ok (.ireturn, 1) := by decide +kernel
theorem dX12_readPole_41 : decode cX12_readPole 41 = .ok (.aload_n 0, 1) := by decide +kernel
theorem dX12_readPole_42 : decode cX12_readPole 42 = .ok (.getfield 200, 3) := by decide +kernel
theorem dX12_readPole_45 : decode cX12_readPole 45 = .ok (.istore_n 2, 1) := by decide +kernel
theorem dX12_readPole_46 : decode cX12_readPole 46 = .ok (.aload_n 0, 1) := by decide +kernel
theorem dX12_readPole_47 : decode cX12_readPole 47 = .ok (.getfield 164, 3) := by decide +kernel
theorem dX12_readPole_50 : decode cX12_readPole 50 = .ok (.iconst 2, 1) := by decide +kernel
theorem dX12_readPole_51 : decode cX12_readPole 51 = .ok (.if_icmp .eq 9, 3) := by decide +kernel
theorem dX12_readPole_54 : decode cX12_readPole 54 = .ok (.aload_n 0, 1) := by decide +kernel
theorem dX12_readPole_55 : decode cX12_readPole 55 = .ok (.iconst 1, 1) := by decide +kernel
theorem dX12_readPole_56 : decode cX12_readPole 56 = .ok (.invokevirtual 190, 3) := by decide +kernel
theorem dX12_readPole_59 : decode cX12_readPole 59 = .ok (.ireturn, 1) := by decide +kernel
theorem dX12_readPole_60 : decode cX12_readPole 60 = .ok (.aload_n 0, 1) := by decide +kernel
theorem dX12_readPole_61 : decode cX12_readPole 61 = .ok (.getfield 174, 3) := by decide +kernel
theorem dX12_readPole_64 : decode cX12_readPole 64 = .ok (.aload_n 0, 1) := by decide +kernel
theorem dX12_readPole_65 : decode cX12_readPole 65 = .ok (.getfield 37, 3) := by decide +kernel
theorem dX12_readPole_68 : decode cX12_readPole 68 = .ok (.iconst 1, 1) := by decide +kernel
theorem dX12_readPole_69 : decode cX12_readPole 69 = .ok (.iaload, 1) := by decide +kernel
theorem dX12_readPole_70 : decode cX12_readPole 70 = .ok (.iconst 1, 1) := by decide +kernel
theorem dX12_readPole_71 : decode cX12_readPole 71 = .ok (.isub, 1) := by decide +kernel
theorem dX12_readPole_72 : decode cX12_readPole 72 = .ok (.if_icmp .le 9, 3) := by decide +kernel
theorem dX12_readPole_75 : decode cX12_readPole 75 = .ok (.aload_n 0, 1) := by decide +kernel
theorem dX12_readPole_76 : decode cX12_readPole 76 = .ok (.iconst 2, 1) := by decide +kernel
theorem dX12_readPole_77 : decode cX12_readPole 77 = .ok (.invokevirtual 190, 3) := by decide +kernel
theorem dX12_readPole_80 : decode cX12_readPole 80 = .ok (.ireturn, 1) := by decide +kernel
theorem dX12_readPole_81 : decode cX12_readPole 81 = .ok (.iconst 0, 1) := by decide +kernel
theorem dX12_readPole_82 : decode cX12_readPole 82 = .ok (.istore_n 3, 1) := by decide +kernel
theorem dX12_readPole_83 : decode cX12_readPole 83 = .ok (.iload_n 3, 1) := by decide +kernel
theorem dX12_readPole_84 : decode cX12_readPole 84 = .ok (.iload_n 1, 1) := by decide +kernel
theorem dX12_readPole_85 : decode cX12_readPole 85 = .ok (.if_icmp .ge 50, 3) := by decide +kernel
theorem dX12_readPole_88 : decode cX12_readPole 88 = .ok (.aload_n 0, 1) := by decide +kernel
theorem dX12_readPole_89 : decode cX12_readPole 89 = .ok (.getfield 37, 3) := by decide +kernel
theorem dX12_readPole_92 : decode cX12_readPole 92 = .ok (.bipush 123, 2) := by decide +kernel
theorem dX12_readPole_94 : decode cX12_readPole 94 = .ok (.iconst 2, 1) := by decide +kernel
theorem dX12_readPole_95 : decode cX12_readPole 95 = .ok (.iload_n 3, 1) := by decide +kernel
theorem dX12_readPole_96 : decode cX12_readPole 96 = .ok (.imul, 1) := by decide +kernel
theorem dX12_readPole_97 : decode cX12_readPole 97 = .ok (.iadd, 1) := by decide +kernel
theorem dX12_readPole_98 : decode cX12_readPole 98 = .ok (.iaload, 1) := by decide +kernel
theorem dX12_readPole_99 : decode cX12_readPole 99 = .ok (.iload_n 2, 1) := by decide +kernel
theorem dX12_readPole_100 : decode cX12_readPole 100 = .ok (.if_icmp .ne 29, 3) := by decide +kernel
theorem dX12_readPole_103 : decode cX12_readPole 103 = .ok (.aload_n 0, 1) := by decide +kernel
theorem dX12_readPole_104 : decode cX12_readPole 104 = .ok (.getfield 37, 3) := by decide +kernel
theorem dX12_readPole_107 : decode cX12_readPole 107 = .ok (.bipush 123, 2) := by decide +kernel
theorem dX12_readPole_109 : decode cX12_readPole 109 = .ok (.iconst 2, 1) := by decide +kernel
theorem dX12_readPole_110 : decode cX12_readPole 110 = .ok (.iload_n 3, 1) := by decide +kernel
theorem dX12_readPole_111 : decode cX12_readPole 111 = .ok (.imul, 1) := by decide +kernel
theorem dX12_readPole_112 : decode cX12_readPole 112 = .ok (.iadd, 1) := by decide +kernel
theorem dX12_readPole_113 : decode cX12_readPole 113 = .ok (.iconst 1, 1) := by decide +kernel
theorem dX12_readPole_114 : decode cX12_readPole 114 = .ok (.iadd, 1) := by decide +kernel
theorem dX12_readPole_115 : decode cX12_readPole 115 = .ok (.iaload, 1) := by decide +kernel
theorem dX12_readPole_116 : decode cX12_readPole 116 = .ok (.aload_n 0, 1) := by decide +kernel
theorem dX12_readPole_117 : decode cX12_readPole 117 = .ok (.getfield 174, 3) := by decide +kernel
theorem dX12_readPole_120 : decode cX12_readPole 120 = .ok (.if_icmp .ne 9, 3) := by decide +kernel
theorem dX12_readPole_123 : decode cX12_readPole 123 = .ok (.aload_n 0, 1) := by decide +kernel
theorem dX12_readPole_124 : decode cX12_readPole 124 = .ok (.iconst 3, 1) := by decide +kernel
theorem dX12_readPole_125 : decode cX12_readPole 125 = .ok (.invokevirtual 190, 3) := by decide +kernel
theorem dX12_readPole_128 : decode cX12_readPole 128 = .ok (.ireturn, 1) := by decide +kernel
theorem dX12_readPole_129 : decode cX12_readPole 129 = .ok (.iinc 3 1, 3) := by decide +kernel
theorem dX12_readPole_132 : decode cX12_readPole 132 = .ok (.goto (-49), 3) := by decide +kernel
theorem dX12_readPole_135 : decode cX12_readPole 135 = .ok (.aload_n 0, 1) := by decide +kernel
theorem dX12_readPole_136 : decode cX12_readPole 136 = .ok (.getfield 37, 3) := by decide +kernel
theorem dX12_readPole_139 : decode cX12_readPole 139 = .ok (.bipush 123, 2) := by decide +kernel
theorem dX12_readPole_141 : decode cX12_readPole 141 = .ok (.iconst 2, 1) := by decide +kernel
theorem dX12_readPole_142 : decode cX12_readPole 142 = .ok (.iload_n 1, 1) := by decide +kernel
theorem dX12_readPole_143 : decode cX12_readPole 143 = .ok (.imul, 1) := by decide +kernel
theorem dX12_readPole_144 : decode cX12_readPole 144 = .ok (.iadd, 1) := by decide +kernel
theorem dX12_readPole_145 : decode cX12_readPole 145 = .ok (.iload_n 2, 1) := by decide +kernel
theorem dX12_readPole_146 : decode cX12_readPole 146 = .ok (.iastore, 1) := by decide +kernel
theorem dX12_readPole_147 : decode cX12_readPole 147 = .ok (.aload_n 0, 1) := by decide +kernel
theorem dX12_readPole_148 : decode cX12_readPole 148 = .ok (.getfield 37, 3) := by decide +kernel
theorem dX12_readPole_151 : decode cX12_readPole 151 = .ok (.bipush 123, 2) := by decide +kernel
theorem dX12_readPole_153 : decode cX12_readPole 153 = .ok (.iconst 2, 1) := by decide +kernel
theorem dX12_readPole_154 : decode cX12_readPole 154 = .ok (.iload_n 1, 1) := by decide +kernel
theorem dX12_readPole_155 : decode cX12_readPole 155 = .ok (.imul, 1) := by decide +kernel
theorem dX12_readPole_156 : decode cX12_readPole 156 = .ok (.iadd, 1) := by decide +kernel
theorem dX12_readPole_157 : decode cX12_readPole 157 = .ok (.iconst 1, 1) := by decide +kernel
theorem dX12_readPole_158 : decode cX12_readPole 158 = .ok (.iadd, 1) := by decide +kernel
theorem dX12_readPole_159 : decode cX12_readPole 159 = .ok (.aload_n 0, 1) := by decide +kernel
theorem dX12_readPole_160 : decode cX12_readPole 160 = .ok (.getfield 174, 3) := by decide +kernel
theorem dX12_readPole_163 : decode cX12_readPole 163 = .ok (.iastore, 1) := by decide +kernel
theorem dX12_readPole_164 : decode cX12_readPole 164 = .ok (.aload_n 0, 1) := by decide +kernel
theorem dX12_readPole_165 : decode cX12_readPole 165 = .ok (.getfield 37, 3) := by decide +kernel
theorem dX12_readPole_168 : decode cX12_readPole 168 = .ok (.iconst 3, 1) := by decide +kernel
theorem dX12_readPole_169 : decode cX12_readPole 169 = .ok (.dup2, 1) := by decide +kernel
theorem dX12_readPole_170 : decode cX12_readPole 170 = .ok (.iaload, 1) := by decide +kernel
theorem dX12_readPole_171 : decode cX12_readPole 171 = .ok (.iconst 1, 1) := by decide +kernel
theorem dX12_readPole_172 : decode cX12_readPole 172 = .ok (.iadd, 1) := by decide +kernel
theorem dX12_readPole_173 : decode cX12_readPole 173 = .ok (.iastore, 1) := by decide +kernel
theorem dX12_readPole_174 : decode cX12_readPole 174 = .ok (.aload_n 0, 1) := by decide +kernel
theorem dX12_readPole_175 : decode cX12_readPole 175 = .ok (.invokevirtual 193, 3) := by decide +kernel
theorem dX12_readPole_178 : decode cX12_readPole 178 = .ok (.iconst 1, 1) := by decide +kernel
theorem dX12_readPole_179 : decode cX12_readPole 179 = .ok (.ireturn, 1) := by decide +kernel
def wb_X12_readPole_129 (K83 : AH → Nat → Int32 → Int32 → Int32 → Prop) (h : AH) (al0 : Nat) (xl1 : Int32) (xl2 : Int32) (xl3 : Int32)  (post : AH → Int32 → Prop) : Prop := ∀ iv1 : Int32, iv1 = xl3 + 1 → (K83 h al0 xl1 xl2 iv1)
set_option maxRecDepth 100000 in
theorem tb_X12_readPole_129 {G : GG} {p : Program} {l : Launch} {e : Env} {R : Room} {s : State} {m : MethodId} {args : Array Value} {below : List Frame} {meth : Method} {c : Code} {n0 s0 : Nat} {post : AH → Int32 → Prop} (C : Cx G p R s m args meth c 4 cX12_readPole RX12 n0 s0 3 65) (hr : meth.sig.returnType = (some .boolean)) {K83 : AH → Nat → Int32 → Int32 → Int32 → Prop} (hK83 : ∀ (h : AH) (al0 : Nat) (xl1 : Int32) (xl2 : Int32) (xl3 : Int32), K83 h al0 xl1 xl2 xl3 → AW G p l e R s m args below meth c 4 (QM G (pI post) args s below n0 s0) 83 [(0, .ref (G.1 + al0)), (1, .int xl1), (2, .int xl2), (3, .int xl3)] [] h) {h : AH} {al0 : Nat} {xl1 : Int32} {xl2 : Int32} {xl3 : Int32}  (hw : wb_X12_readPole_129 K83 h al0 xl1 xl2 xl3 post) : AW G p l e R s m args below meth c 4 (QM G (pI post) args s below n0 s0) 129 [(0, .ref (G.1 + al0)), (1, .int xl1), (2, .int xl2), (3, .int xl3)] [] h := by
  unfold wb_X12_readPole_129 at hw
  obtain ⟨iv1, eiv1⟩ : ∃ q : Int32, q = xl3 + 1 := ⟨_, rfl⟩
  replace hw := hw iv1 eiv1
  refine r_iinc C dX12_readPole_129 3 rfl (by rw [eiv1]; rfl) [(3, .int iv1), (0, .ref (G.1 + al0)), (1, .int xl1), (2, .int xl2)] (by decide) rfl ?_
  refine r_goto C dX12_readPole_132 83 (by decide) ?_
  refine r_sub [1, 2, 3, 0] rfl ?_
  exact hK83 _ _ _ _ _ hw
def wb_X12_readPole_83 (K83 : AH → Nat → Int32 → Int32 → Int32 → Prop) (h : AH) (al0 : Nat) (xl1 : Int32) (xl2 : Int32) (xl3 : Int32)  (post : AH → Int32 → Prop) : Prop := (xl1 ≤ xl3 → ((ob h al0 11) ∧ (∃ rv1, aP h al0 7 = some rv1 ∧ ((ob h rv1 13) ∧ ((vp_in ((123 : Int32) + ((2 : Int32) * xl1)) (aL h rv1)) ∧ (∀ hv2 : AH, hv2 = hI h rv1 ((123 : Int32) + ((2 : Int32) * xl1)).toNatClampNeg xl2 → ((ob hv2 al0 11) ∧ (∃ rv3, aP hv2 al0 7 = some rv3 ∧ ((ob hv2 al0 11) ∧ ((ob hv2 rv3 13) ∧ ((vp_in (((123 : Int32) + ((2 : Int32) * xl1)) + (1 : Int32)) (aL hv2 rv3)) ∧ (∀ hv4 : AH, hv4 = hI hv2 rv3 (((123 : Int32) + ((2 : Int32) * xl1)) + (1 : Int32)).toNatClampNeg (aI hv2 al0 14) → ((ob hv4 al0 11) ∧ (∃ rv5, aP hv4 al0 7 = some rv5 ∧ ((ob hv4 rv5 13) ∧ ((vp_in 3 (aL hv4 rv5)) ∧ ((ob hv4 rv5 13) ∧ ((vp_in 3 (aL hv4 rv5)) ∧ (∀ hv6 : AH, hv6 = hI hv4 rv5 (3 : Int32).toNatClampNeg ((aI hv4 rv5 (3 : Int32).toNatClampNeg) + (1 : Int32)) → ((ob hv6 al0 11) ∧ wp_X12_next hv6 al0  (fun hv7  => ((1 : Int32) = 0 ∨ (1 : Int32) = 1) ∧ post hv7 1))))))))))))))))))))) ∧ (¬ xl1 ≤ xl3 → ((ob h al0 11) ∧ (∃ rv8, aP h al0 7 = some rv8 ∧ ((ob h rv8 13) ∧ ((vp_in ((123 : Int32) + ((2 : Int32) * xl3)) (aL h rv8)) ∧ ((¬ (aI h rv8 ((123 : Int32) + ((2 : Int32) * xl3)).toNatClampNeg) = xl2 → (wb_X12_readPole_129 K83 h al0 xl1 xl2 xl3 post)) ∧ ((aI h rv8 ((123 : Int32) + ((2 : Int32) * xl3)).toNatClampNeg) = xl2 → ((ob h al0 11) ∧ (∃ rv9, aP h al0 7 = some rv9 ∧ ((ob h rv9 13) ∧ ((vp_in (((123 : Int32) + ((2 : Int32) * xl3)) + (1 : Int32)) (aL h rv9)) ∧ ((ob h al0 11) ∧ ((¬ (aI h rv9 (((123 : Int32) + ((2 : Int32) * xl3)) + (1 : Int32)).toNatClampNeg) = (aI h al0 14) → (wb_X12_readPole_129 K83 h al0 xl1 xl2 xl3 post)) ∧ ((aI h rv9 (((123 : Int32) + ((2 : Int32) * xl3)) + (1 : Int32)).toNatClampNeg) = (aI h al0 14) → ((ob h al0 11) ∧ wp_X12_bad h al0 3 (fun hv10 iv11 => (iv11 = 0 ∨ iv11 = 1) ∧ post hv10 iv11))))))))))))))))
set_option maxRecDepth 100000 in
theorem tb_X12_readPole_83 {G : GG} {p : Program} {l : Launch} {e : Env} {R : Room} {s : State} {m : MethodId} {args : Array Value} {below : List Frame} {meth : Method} {c : Code} {n0 s0 : Nat} {post : AH → Int32 → Prop} (C : Cx G p R s m args meth c 4 cX12_readPole RX12 n0 s0 3 65) (hr : meth.sig.returnType = (some .boolean)) {K83 : AH → Nat → Int32 → Int32 → Int32 → Prop} (hK83 : ∀ (h : AH) (al0 : Nat) (xl1 : Int32) (xl2 : Int32) (xl3 : Int32), K83 h al0 xl1 xl2 xl3 → AW G p l e R s m args below meth c 4 (QM G (pI post) args s below n0 s0) 83 [(0, .ref (G.1 + al0)), (1, .int xl1), (2, .int xl2), (3, .int xl3)] [] h) {h : AH} {al0 : Nat} {xl1 : Int32} {xl2 : Int32} {xl3 : Int32}  (hw : wb_X12_readPole_83 K83 h al0 xl1 xl2 xl3 post) : AW G p l e R s m args below meth c 4 (QM G (pI post) args s below n0 s0) 83 [(0, .ref (G.1 + al0)), (1, .int xl1), (2, .int xl2), (3, .int xl3)] [] h := by
  unfold wb_X12_readPole_83 at hw
  refine r_iload_n C dX12_readPole_83 3 rfl ?_
  refine r_iload_n C dX12_readPole_84 1 rfl ?_
  refine r_icmp_ge C dX12_readPole_85 135 (by decide) (fun hc => ?_) (fun hc => ?_)
  · replace hw := hw.1 hc
    refine r_aload_n C dX12_readPole_135 0 rfl ?_
    have hob := hw.1
    obtain ⟨rv1, hp, hw⟩ := hw.2
    refine r_getP C fl_RX12_37_11 hob hp (fun _ _ _ => rfl) dX12_readPole_136 ?_
    refine r_bipush (v := 123) C dX12_readPole_139 (by decide) ?_
    refine r_iconst (v := 2) C dX12_readPole_141 (by decide) ?_
    refine r_iload_n C dX12_readPole_142 1 rfl ?_
    refine r_imul C dX12_readPole_143 ?_
    refine r_iadd C dX12_readPole_144 ?_
    refine r_iload_n C dX12_readPole_145 2 rfl ?_
    refine r_iastore C hw.1 hw.2.1 dX12_readPole_146 ?_
    replace hw := hw.2.2
    refine r_toph fun hv2 ehv2 => ?_
    replace hw := hw hv2 ehv2
    refine r_aload_n C dX12_readPole_147 0 rfl ?_
    have hob := hw.1
    obtain ⟨rv3, hp, hw⟩ := hw.2
    refine r_getP C fl_RX12_37_11 hob hp (fun _ _ _ => rfl) dX12_readPole_148 ?_
    refine r_bipush (v := 123) C dX12_readPole_151 (by decide) ?_
    refine r_iconst (v := 2) C dX12_readPole_153 (by decide) ?_
    refine r_iload_n C dX12_readPole_154 1 rfl ?_
    refine r_imul C dX12_readPole_155 ?_
    refine r_iadd C dX12_readPole_156 ?_
    refine r_iconst (v := 1) C dX12_readPole_157 (by decide) ?_
    refine r_iadd C dX12_readPole_158 ?_
    refine r_aload_n C dX12_readPole_159 0 rfl ?_
    refine r_getI C fl_RX12_174_11 hw.1 (fun _ _ _ => rfl) dX12_readPole_160 ?_
    replace hw := hw.2
    refine r_iastore C hw.1 hw.2.1 dX12_readPole_163 ?_
    replace hw := hw.2.2
    refine r_toph fun hv4 ehv4 => ?_
    replace hw := hw hv4 ehv4
    refine r_aload_n C dX12_readPole_164 0 rfl ?_
    have hob := hw.1
    obtain ⟨rv5, hp, hw⟩ := hw.2
    refine r_getP C fl_RX12_37_11 hob hp (fun _ _ _ => rfl) dX12_readPole_165 ?_
    refine r_iconst (v := 3) C dX12_readPole_168 (by decide) ?_
    refine r_dup2 C dX12_readPole_169 rfl rfl ?_
    refine r_iaload C hw.1 hw.2.1 dX12_readPole_170 ?_
    replace hw := hw.2.2
    refine r_iconst (v := 1) C dX12_readPole_171 (by decide) ?_
    refine r_iadd C dX12_readPole_172 ?_
    refine r_iastore C hw.1 hw.2.1 dX12_readPole_173 ?_
    replace hw := hw.2.2
    refine r_toph fun hv6 ehv6 => ?_
    replace hw := hw hv6 ehv6
    refine r_aload_n C dX12_readPole_174 0 rfl ?_
    have hob := hw.1
    replace hw := hw.2
    refine r_callV C (As := []) (rest := []) (c_X12_next G hv6 al0  _ hw) yl_X12_next (gm7 (List.mem_of_getElem? (i := 151) rfl) rfl) (gm7 (List.mem_of_getElem? (i := 153) rfl) rfl) (ci := 11) rfl (by decide) (gsel (List.mem_of_getElem? (i := 41) rfl)) hob (by decide) rfl (Nat.le_of_ble_eq_true rfl) dX12_readPole_175 rfl (kV fun hv7  hw => ?_)
    refine r_iconst (v := 1) C dX12_readPole_178 (by decide) ?_
    exact r_zret C hr dX12_readPole_179 hw.1 hw.2
  · replace hw := hw.2 hc
    refine r_aload_n C dX12_readPole_88 0 rfl ?_
    have hob := hw.1
    obtain ⟨rv8, hp, hw⟩ := hw.2
    refine r_getP C fl_RX12_37_11 hob hp (fun _ _ _ => rfl) dX12_readPole_89 ?_
    refine r_bipush (v := 123) C dX12_readPole_92 (by decide) ?_
    refine r_iconst (v := 2) C dX12_readPole_94 (by decide) ?_
    refine r_iload_n C dX12_readPole_95 3 rfl ?_
    refine r_imul C dX12_readPole_96 ?_
    refine r_iadd C dX12_readPole_97 ?_
    refine r_iaload C hw.1 hw.2.1 dX12_readPole_98 ?_
    replace hw := hw.2.2
    refine r_iload_n C dX12_readPole_99 2 rfl ?_
    refine r_icmp_ne C dX12_readPole_100 129 (by decide) (fun hc => ?_) (fun hc => ?_)
    · replace hw := hw.1 hc
      refine r_sub [0, 1, 2, 3] rfl ?_
      exact tb_X12_readPole_129 C hr hK83 hw
    · replace hw := hw.2 hc
      refine r_aload_n C dX12_readPole_103 0 rfl ?_
      have hob := hw.1
      obtain ⟨rv9, hp, hw⟩ := hw.2
      refine r_getP C fl_RX12_37_11 hob hp (fun _ _ _ => rfl) dX12_readPole_104 ?_
      refine r_bipush (v := 123) C dX12_readPole_107 (by decide) ?_
      refine r_iconst (v := 2) C dX12_readPole_109 (by decide) ?_
      refine r_iload_n C dX12_readPole_110 3 rfl ?_
      refine r_imul C dX12_readPole_111 ?_
      refine r_iadd C dX12_readPole_112 ?_
      refine r_iconst (v := 1) C dX12_readPole_113 (by decide) ?_
      refine r_iadd C dX12_readPole_114 ?_
      refine r_iaload C hw.1 hw.2.1 dX12_readPole_115 ?_
      replace hw := hw.2.2
      refine r_aload_n C dX12_readPole_116 0 rfl ?_
      refine r_getI C fl_RX12_174_11 hw.1 (fun _ _ _ => rfl) dX12_readPole_117 ?_
      replace hw := hw.2
      refine r_icmp_ne C dX12_readPole_120 129 (by decide) (fun hc => ?_) (fun hc => ?_)
      · replace hw := hw.1 hc
        refine r_sub [0, 1, 2, 3] rfl ?_
        exact tb_X12_readPole_129 C hr hK83 hw
      · replace hw := hw.2 hc
        refine r_aload_n C dX12_readPole_123 0 rfl ?_
        refine r_iconst (v := 3) C dX12_readPole_124 (by decide) ?_
        have hob := hw.1
        replace hw := hw.2
        refine r_callV C (As := [.int 3]) (rest := []) (c_X12_bad G h al0 3 _ hw) yl_X12_bad (gm7 (List.mem_of_getElem? (i := 177) rfl) rfl) (gm7 (List.mem_of_getElem? (i := 179) rfl) rfl) (ci := 11) rfl (by decide) (gsel (List.mem_of_getElem? (i := 46) rfl)) hob (by decide) rfl (Nat.le_of_ble_eq_true rfl) dX12_readPole_125 rfl (kI fun hv10 iv11 hw => ?_)
        exact r_zret C hr dX12_readPole_128 hw.1 hw.2
def wl_X12_readPole_83  (post : AH → Int32 → Prop) : Nat → AH → Nat → Int32 → Int32 → Int32 → Prop
  | 0 => fun _ _ _ _ _ => False
  | n + 1 => fun h al0 xl1 xl2 xl3 => wb_X12_readPole_83  (wl_X12_readPole_83  post n) h al0 xl1 xl2 xl3 post
theorem tl_X12_readPole_83 {G : GG} {p : Program} {l : Launch} {e : Env} {R : Room} {s : State} {m : MethodId} {args : Array Value} {below : List Frame} {meth : Method} {c : Code} {n0 s0 : Nat} {post : AH → Int32 → Prop} (C : Cx G p R s m args meth c 4 cX12_readPole RX12 n0 s0 3 65) (hr : meth.sig.returnType = (some .boolean))   : ∀ (n : Nat) (h : AH) (al0 : Nat) (xl1 : Int32) (xl2 : Int32) (xl3 : Int32), wl_X12_readPole_83  post n h al0 xl1 xl2 xl3 → AW G p l e R s m args below meth c 4 (QM G (pI post) args s below n0 s0) 83 [(0, .ref (G.1 + al0)), (1, .int xl1), (2, .int xl2), (3, .int xl3)] [] h := by
  intro n
  induction n with
  | zero => intro h al0 xl1 xl2 xl3 hw; exact hw.elim
  | succ n ih => intro h al0 xl1 xl2 xl3 hw; exact tb_X12_readPole_83 C hr  ih hw
def wp_X12_readPole (h : AH) (a0 : Nat) (post : AH → Int32 → Prop) : Prop := (ob h a0 11) ∧ (∃ rv1, aP h a0 7 = some rv1 ∧ ((ob h rv1 13) ∧ ((vp_in 3 (aL h rv1)) ∧ (∀ iv2 : Int32, iv2 = aI h rv1 (3 : Int32).toNatClampNeg → ((¬ iv2 = 6 → ((ob h a0 11) ∧ wp_X12_next h a0  (fun hv3  => (ob hv3 a0 11) ∧ (∃ rv4, aP hv3 a0 7 = some rv4 ∧ ((ob hv3 rv4 13) ∧ ((vp_in 0 (aL hv3 rv4)) ∧ ((ob hv3 a0 11) ∧ wp_X12_takes hv3 a0 0 ((aI hv3 rv4 (0 : Int32).toNatClampNeg) - (1 : Int32)) (fun hv5 iv6 => (¬ iv6 = 0 → ((ob hv5 a0 11) ∧ (∀ iv7 : Int32, iv7 = aI hv5 a0 18 → ((ob hv5 a0 11) ∧ (((aI hv5 a0 11) = 2 → ((ob hv5 a0 11) ∧ ((ob hv5 a0 11) ∧ (∃ rv8, aP hv5 a0 7 = some rv8 ∧ ((ob hv5 rv8 13) ∧ ((vp_in 1 (aL hv5 rv8)) ∧ (((aI hv5 a0 14) ≤ ((aI hv5 rv8 (1 : Int32).toNatClampNeg) - (1 : Int32)) → (∃ n, wl_X12_readPole_83  post n hv5 a0 iv2 iv7 0)) ∧ (¬ (aI hv5 a0 14) ≤ ((aI hv5 rv8 (1 : Int32).toNatClampNeg) - (1 : Int32)) → ((ob hv5 a0 11) ∧ wp_X12_bad hv5 a0 2 (fun hv9 iv10 => (iv10 = 0 ∨ iv10 = 1) ∧ post hv9 iv10)))))))))) ∧ (¬ (aI hv5 a0 11) = 2 → ((ob hv5 a0 11) ∧ wp_X12_bad hv5 a0 1 (fun hv11 iv12 => (iv12 = 0 ∨ iv12 = 1) ∧ post hv11 iv12)))))))) ∧ (iv6 = 0 → (((0 : Int32) = 0 ∨ (0 : Int32) = 1) ∧ post hv5 0)))))))))) ∧ (iv2 = 6 → ((ob h a0 11) ∧ wp_X12_bad h a0 4 (fun hv13 iv14 => (iv14 = 0 ∨ iv14 = 1) ∧ post hv13 iv14))))))))
set_option maxRecDepth 100000 in
theorem c_X12_readPole (G : GG) (h : AH) (a0 : Nat) (post : AH → Int32 → Prop) (hw : wp_X12_readPole h a0 post) : MC G yX12_readPole cX12_readPole 4 (some .boolean) 3 65 h [.ref (G.1 + a0)] (pI post) := by
  refine MC.of (lv := [(0, .ref (G.1 + a0))]) (by decide) (Nat.le_of_ble_eq_true rfl) rfl fun p l e R s m args below meth c C hr hnm => ?_
  unfold wp_X12_readPole at hw
  refine r_aload_n C dX12_readPole_0 0 rfl ?_
  have hob := hw.1
  obtain ⟨rv1, hp, hw⟩ := hw.2
  refine r_getP C fl_RX12_37_11 hob hp (fun _ _ _ => rfl) dX12_readPole_1 ?_
  refine r_iconst (v := 3) C dX12_readPole_4 (by decide) ?_
  refine r_iaload C hw.1 hw.2.1 dX12_readPole_5 ?_
  replace hw := hw.2.2
  refine r_topi fun iv2 eiv2 => ?_
  replace hw := hw iv2 eiv2
  refine r_istore_n C dX12_readPole_6 [(1, .int iv2), (0, .ref (G.1 + a0))] (by decide) rfl ?_
  refine r_iload_n C dX12_readPole_7 0 rfl ?_
  refine r_bipush (v := 6) C dX12_readPole_8 (by decide) ?_
  refine r_icmp_ne C dX12_readPole_10 19 (by decide) (fun hc => ?_) (fun hc => ?_)
  · replace hw := hw.1 hc
    refine r_aload_n C dX12_readPole_19 1 rfl ?_
    have hob := hw.1
    replace hw := hw.2
    refine r_callV C (As := []) (rest := []) (c_X12_next G h a0  _ hw) yl_X12_next (gm7 (List.mem_of_getElem? (i := 151) rfl) rfl) (gm7 (List.mem_of_getElem? (i := 153) rfl) rfl) (ci := 11) rfl (by decide) (gsel (List.mem_of_getElem? (i := 41) rfl)) hob (by decide) rfl (Nat.le_of_ble_eq_true rfl) dX12_readPole_20 rfl (kV fun hv3  hw => ?_)
    refine r_aload_n C dX12_readPole_23 1 rfl ?_
    refine r_iconst (v := 0) C dX12_readPole_24 (by decide) ?_
    refine r_aload_n C dX12_readPole_25 1 rfl ?_
    have hob := hw.1
    obtain ⟨rv4, hp, hw⟩ := hw.2
    refine r_getP C fl_RX12_37_11 hob hp (fun _ _ _ => rfl) dX12_readPole_26 ?_
    refine r_iconst (v := 0) C dX12_readPole_29 (by decide) ?_
    refine r_iaload C hw.1 hw.2.1 dX12_readPole_30 ?_
    replace hw := hw.2.2
    refine r_iconst (v := 1) C dX12_readPole_31 (by decide) ?_
    refine r_isub C dX12_readPole_32 ?_
    have hob := hw.1
    replace hw := hw.2
    refine r_callV C (As := [.int 0, .int ((aI hv3 rv4 (0 : Int32).toNatClampNeg) - (1 : Int32))]) (rest := []) (c_X12_takes G hv3 a0 0 ((aI hv3 rv4 (0 : Int32).toNatClampNeg) - (1 : Int32)) _ hw) yl_X12_takes (gm7 (List.mem_of_getElem? (i := 195) rfl) rfl) (gm7 (List.mem_of_getElem? (i := 197) rfl) rfl) (ci := 11) rfl (by decide) (gsel (List.mem_of_getElem? (i := 49) rfl)) hob (by decide) rfl (Nat.le_of_ble_eq_true rfl) dX12_readPole_33 rfl (kI fun hv5 iv6 hw => ?_)
    refine r_if_ne C dX12_readPole_36 41 (by decide) (fun hc => ?_) (fun hc => ?_)
    · replace hw := hw.1 hc
      refine r_aload_n C dX12_readPole_41 1 rfl ?_
      refine r_getI C fl_RX12_200_11 hw.1 (fun _ _ _ => rfl) dX12_readPole_42 ?_
      replace hw := hw.2
      refine r_topi fun iv7 eiv7 => ?_
      replace hw := hw iv7 eiv7
      refine r_istore_n C dX12_readPole_45 [(2, .int iv7), (1, .int iv2), (0, .ref (G.1 + a0))] (by decide) rfl ?_
      refine r_aload_n C dX12_readPole_46 2 rfl ?_
      refine r_getI C fl_RX12_164_11 hw.1 (fun _ _ _ => rfl) dX12_readPole_47 ?_
      replace hw := hw.2
      refine r_iconst (v := 2) C dX12_readPole_50 (by decide) ?_
      refine r_icmp_eq C dX12_readPole_51 60 (by decide) (fun hc => ?_) (fun hc => ?_)
      · replace hw := hw.1 hc
        refine r_aload_n C dX12_readPole_60 2 rfl ?_
        refine r_getI C fl_RX12_174_11 hw.1 (fun _ _ _ => rfl) dX12_readPole_61 ?_
        replace hw := hw.2
        refine r_aload_n C dX12_readPole_64 2 rfl ?_
        have hob := hw.1
        obtain ⟨rv8, hp, hw⟩ := hw.2
        refine r_getP C fl_RX12_37_11 hob hp (fun _ _ _ => rfl) dX12_readPole_65 ?_
        refine r_iconst (v := 1) C dX12_readPole_68 (by decide) ?_
        refine r_iaload C hw.1 hw.2.1 dX12_readPole_69 ?_
        replace hw := hw.2.2
        refine r_iconst (v := 1) C dX12_readPole_70 (by decide) ?_
        refine r_isub C dX12_readPole_71 ?_
        refine r_icmp_le C dX12_readPole_72 81 (by decide) (fun hc => ?_) (fun hc => ?_)
        · replace hw := hw.1 hc
          refine r_iconst (v := 0) C dX12_readPole_81 (by decide) ?_
          refine r_istore_n C dX12_readPole_82 [(3, .int 0), (2, .int iv7), (1, .int iv2), (0, .ref (G.1 + a0))] (by decide) rfl ?_
          refine r_sub [3, 2, 1, 0] rfl ?_
          obtain ⟨n, hw⟩ := hw
          exact tl_X12_readPole_83 C hr  n _ _ _ _ _ hw
        · replace hw := hw.2 hc
          refine r_aload_n C dX12_readPole_75 2 rfl ?_
          refine r_iconst (v := 2) C dX12_readPole_76 (by decide) ?_
          have hob := hw.1
          replace hw := hw.2
          refine r_callV C (As := [.int 2]) (rest := []) (c_X12_bad G hv5 a0 2 _ hw) yl_X12_bad (gm7 (List.mem_of_getElem? (i := 177) rfl) rfl) (gm7 (List.mem_of_getElem? (i := 179) rfl) rfl) (ci := 11) rfl (by decide) (gsel (List.mem_of_getElem? (i := 46) rfl)) hob (by decide) rfl (Nat.le_of_ble_eq_true rfl) dX12_readPole_77 rfl (kI fun hv9 iv10 hw => ?_)
          exact r_zret C hr dX12_readPole_80 hw.1 hw.2
      · replace hw := hw.2 hc
        refine r_aload_n C dX12_readPole_54 2 rfl ?_
        refine r_iconst (v := 1) C dX12_readPole_55 (by decide) ?_
        have hob := hw.1
        replace hw := hw.2
        refine r_callV C (As := [.int 1]) (rest := []) (c_X12_bad G hv5 a0 1 _ hw) yl_X12_bad (gm7 (List.mem_of_getElem? (i := 177) rfl) rfl) (gm7 (List.mem_of_getElem? (i := 179) rfl) rfl) (ci := 11) rfl (by decide) (gsel (List.mem_of_getElem? (i := 46) rfl)) hob (by decide) rfl (Nat.le_of_ble_eq_true rfl) dX12_readPole_56 rfl (kI fun hv11 iv12 hw => ?_)
        exact r_zret C hr dX12_readPole_59 hw.1 hw.2
    · replace hw := hw.2 hc
      refine r_iconst (v := 0) C dX12_readPole_39 (by decide) ?_
      exact r_zret C hr dX12_readPole_40 hw.1 hw.2
  · replace hw := hw.2 hc
    refine r_aload_n C dX12_readPole_13 1 rfl ?_
    refine r_iconst (v := 4) C dX12_readPole_14 (by decide) ?_
    have hob := hw.1
    replace hw := hw.2
    refine r_callV C (As := [.int 4]) (rest := []) (c_X12_bad G h a0 4 _ hw) yl_X12_bad (gm7 (List.mem_of_getElem? (i := 177) rfl) rfl) (gm7 (List.mem_of_getElem? (i := 179) rfl) rfl) (ci := 11) rfl (by decide) (gsel (List.mem_of_getElem? (i := 46) rfl)) hob (by decide) rfl (Nat.le_of_ble_eq_true rfl) dX12_readPole_15 rfl (kI fun hv13 iv14 hw => ?_)
    exact r_zret C hr dX12_readPole_18 hw.1 hw.2
theorem dX12_wide_0 : decode cX12_wide 0 = .ok (.aload_n 0, 1) := by decide +kernel
theorem dX12_wide_1 : decode cX12_wide 1 = .ok (.getfield 53, 3) := by decide +kernel
theorem dX12_wide_4 : decode cX12_wide 4 = .ok (.iconst 3, 1) := by decide +kernel
theorem dX12_wide_5 : decode cX12_wide 5 = .ok (.iload_n 1, 1) := by decide +kernel
theorem dX12_wide_6 : decode cX12_wide 6 = .ok (.imul, 1) := by decide +kernel
theorem dX12_wide_7 : decode cX12_wide 7 = .ok (.aload_n 0, 1) := by decide +kernel
theorem dX12_wide_8 : decode cX12_wide 8 = .ok (.getfield 50, 3) := by decide +kernel
theorem dX12_wide_11 : decode cX12_wide 11 = .ok (.iconst 3, 1) := by decide +kernel
theorem dX12_wide_12 : decode cX12_wide 12 = .ok (.iload_n 1, 1) := by decide +kernel
theorem dX12_wide_13 : decode cX12_wide 13 = .ok (.imul, 1) := by decide +kernel
theorem dX12_wide_14 : decode cX12_wide 14 = .ok (.iconst 2, 1) := by decide +kernel
theorem dX12_wide_15 : decode cX12_wide 15 = .ok (.iadd, 1) := by decide +kernel
theorem dX12_wide_16 : decode cX12_wide 16 = .ok (.iaload, 1) := by decide +kernel
theorem dX12_wide_17 : decode cX12_wide 17 = .ok (.iadd, 1) := by decide +kernel
theorem dX12_wide_18 : decode cX12_wide 18 = .ok (.iaload, 1) := by decide +kernel
theorem dX12_wide_19 : decode cX12_wide 19 = .ok (.ireturn, 1) := by decide +kernel
def wp_X12_wide (h : AH) (a0 : Nat) (x1 : Int32) (post : AH → Int32 → Prop) : Prop := (ob h a0 11) ∧ (∃ rv1, aP h a0 25 = some rv1 ∧ ((ob h a0 11) ∧ (∃ rv2, aP h a0 24 = some rv2 ∧ ((ob h rv2 13) ∧ ((vp_in (((3 : Int32) * x1) + (2 : Int32)) (aL h rv2)) ∧ ((ob h rv1 13) ∧ ((vp_in (((3 : Int32) * x1) + (aI h rv2 (((3 : Int32) * x1) + (2 : Int32)).toNatClampNeg)) (aL h rv1)) ∧ (post h (aI h rv1 (((3 : Int32) * x1) + (aI h rv2 (((3 : Int32) * x1) + (2 : Int32)).toNatClampNeg)).toNatClampNeg)))))))))
set_option maxRecDepth 100000 in
theorem c_X12_wide (G : GG) (h : AH) (a0 : Nat) (x1 : Int32) (post : AH → Int32 → Prop) (hw : wp_X12_wide h a0 x1 post) : MC G yX12_wide cX12_wide 2 (some .int) 0 0 h [.ref (G.1 + a0), .int x1] (pI post) := by
  refine MC.of (lv := [(0, .ref (G.1 + a0)), (1, .int x1)]) (by decide) (Nat.le_of_ble_eq_true rfl) rfl fun p l e R s m args below meth c C hr hnm => ?_
  unfold wp_X12_wide at hw
  refine r_aload_n C dX12_wide_0 0 rfl ?_
  have hob := hw.1
  obtain ⟨rv1, hp, hw⟩ := hw.2
  refine r_getP C fl_RX12_53_11 hob hp (fun _ _ _ => rfl) dX12_wide_1 ?_
  refine r_iconst (v := 3) C dX12_wide_4 (by decide) ?_
  refine r_iload_n C dX12_wide_5 1 rfl ?_
  refine r_imul C dX12_wide_6 ?_
  refine r_aload_n C dX12_wide_7 0 rfl ?_
  have hob := hw.1
  obtain ⟨rv2, hp, hw⟩ := hw.2
  refine r_getP C fl_RX12_50_11 hob hp (fun _ _ _ => rfl) dX12_wide_8 ?_
  refine r_iconst (v := 3) C dX12_wide_11 (by decide) ?_
  refine r_iload_n C dX12_wide_12 1 rfl ?_
  refine r_imul C dX12_wide_13 ?_
  refine r_iconst (v := 2) C dX12_wide_14 (by decide) ?_
  refine r_iadd C dX12_wide_15 ?_
  refine r_iaload C hw.1 hw.2.1 dX12_wide_16 ?_
  replace hw := hw.2.2
  refine r_iadd C dX12_wide_17 ?_
  refine r_iaload C hw.1 hw.2.1 dX12_wide_18 ?_
  replace hw := hw.2.2
  exact r_iret C hr dX12_wide_19 hw
theorem dX12_between_0 : decode cX12_between 0 = .ok (.iload_n 2, 1) := by decide +kernel
theorem dX12_between_1 : decode cX12_between 1 = .ok (.iload_n 0, 1) := by decide +kernel
theorem dX12_between_2 : decode cX12_between 2 = .ok (.iload_n 1, 1) := by decide +kernel
theorem dX12_between_3 : decode cX12_between 3 = .ok (.iadd, 1) := by decide +kernel
theorem dX12_between_4 : decode cX12_between 4 = .ok (.if_icmp .lt 11, 3) := by decide +kernel
theorem dX12_between_7 : decode cX12_between 7 = .ok (.iload_n 2, 1) := by decide +kernel
theorem dX12_between_8 : decode cX12_between 8 = .ok (.iload_n 0, 1) := by decide +kernel
theorem dX12_between_9 : decode cX12_between 9 = .ok (.isub, 1) := by decide +kernel
theorem dX12_between_10 : decode cX12_between 10 = .ok (.iload_n 1, 1) := by decide +kernel
theorem dX12_between_11 : decode cX12_between 11 = .ok (.isub, 1) := by decide +kernel
theorem dX12_between_12 : decode cX12_between 12 = .ok (.goto 19, 3) := by decide +kernel
theorem dX12_between_15 : decode cX12_between 15 = .ok (.iload_n 0, 1) := by decide +kernel
theorem dX12_between_16 : decode cX12_between 16 = .ok (.iload_n 2, 1) := by decide +kernel
theorem dX12_between_17 : decode cX12_between 17 = .ok (.iload_n 3, 1) := by decide +kernel
theorem dX12_between_18 : decode cX12_between 18 = .ok (.iadd, 1) := by decide +kernel
theorem dX12_between_19 : decode cX12_between 19 = .ok (.if_icmp .lt 11, 3) := by decide +kernel
theorem dX12_between_22 : decode cX12_between 22 = .ok (.iload_n 0, 1) := by decide +kernel
theorem dX12_between_23 : decode cX12_between 23 = .ok (.iload_n 2, 1) := by decide +kernel
theorem dX12_between_24 : decode cX12_between 24 = .ok (.isub, 1) := by decide +kernel
theorem dX12_between_25 : decode cX12_between 25 = .ok (.iload_n 3, 1) := by decide +kernel
theorem dX12_between_26 : decode cX12_between 26 = .ok (.isub, 1) := by decide +kernel
theorem dX12_between_27 : decode cX12_between 27 = .ok (.goto 4, 3) := by decide +kernel
theorem dX12_between_30 : decode cX12_between 30 = .ok (.iconst 0, 1) := by decide +kernel
theorem dX12_between_31 : decode cX12_between 31 = .ok (.ireturn, 1) := by decide +kernel
def wp_X12_between (h : AH) (x0 : Int32) (x1 : Int32) (x2 : Int32) (x3 : Int32) (post : AH → Int32 → Prop) : Prop := (x2 < (x0 + x1) → ((x0 < (x2 + x3) → (post h 0)) ∧ (¬ x0 < (x2 + x3) → (post h ((x0 - x2) - x3))))) ∧ (¬ x2 < (x0 + x1) → (post h ((x2 - x0) - x1)))
set_option maxRecDepth 100000 in
theorem c_X12_between (G : GG) (h : AH) (x0 : Int32) (x1 : Int32) (x2 : Int32) (x3 : Int32) (post : AH → Int32 → Prop) (hw : wp_X12_between h x0 x1 x2 x3 post) : MC G yX12_between cX12_between 4 (some .int) 0 0 h [.int x0, .int x1, .int x2, .int x3] (pI post) := by
  refine MC.of (lv := [(0, .int x0), (1, .int x1), (2, .int x2), (3, .int x3)]) (by decide) (Nat.le_of_ble_eq_true rfl) rfl fun p l e R s m args below meth c C hr hnm => ?_
  unfold wp_X12_between at hw
  refine r_iload_n C dX12_between_0 2 rfl ?_
  refine r_iload_n C dX12_between_1 0 rfl ?_
  refine r_iload_n C dX12_between_2 1 rfl ?_
  refine r_iadd C dX12_between_3 ?_
  refine r_icmp_lt C dX12_between_4 15 (by decide) (fun hc => ?_) (fun hc => ?_)
  · replace hw := hw.1 hc
    refine r_iload_n C dX12_between_15 0 rfl ?_
    refine r_iload_n C dX12_between_16 2 rfl ?_
    refine r_iload_n C dX12_between_17 3 rfl ?_
    refine r_iadd C dX12_between_18 ?_
    refine r_icmp_lt C dX12_between_19 30 (by decide) (fun hc => ?_) (fun hc => ?_)
    · replace hw := hw.1 hc
      refine r_iconst (v := 0) C dX12_between_30 (by decide) ?_
      exact r_iret C hr dX12_between_31 hw
    · replace hw := hw.2 hc
      refine r_iload_n C dX12_between_22 0 rfl ?_
      refine r_iload_n C dX12_between_23 2 rfl ?_
      refine r_isub C dX12_between_24 ?_
      refine r_iload_n C dX12_between_25 3 rfl ?_
      refine r_isub C dX12_between_26 ?_
      refine r_goto C dX12_between_27 31 (by decide) ?_
      exact r_iret C hr dX12_between_31 hw
  · replace hw := hw.2 hc
    refine r_iload_n C dX12_between_7 2 rfl ?_
    refine r_iload_n C dX12_between_8 0 rfl ?_
    refine r_isub C dX12_between_9 ?_
    refine r_iload_n C dX12_between_10 1 rfl ?_
    refine r_isub C dX12_between_11 ?_
    refine r_goto C dX12_between_12 31 (by decide) ?_
    exact r_iret C hr dX12_between_31 hw
theorem dX12_high_0 : decode cX12_high 0 = .ok (.aload_n 0, 1) := by decide +kernel
theorem dX12_high_1 : decode cX12_high 1 = .ok (.getfield 53, 3) := by decide +kernel
theorem dX12_high_4 : decode cX12_high 4 = .ok (.iconst 3, 1) := by decide +kernel
theorem dX12_high_5 : decode cX12_high 5 = .ok (.iload_n 1, 1) := by decide +kernel
theorem dX12_high_6 : decode cX12_high 6 = .ok (.imul, 1) := by decide +kernel
theorem dX12_high_7 : decode cX12_high 7 = .ok (.iconst 1, 1) := by decide +kernel
theorem dX12_high_8 : decode cX12_high 8 = .ok (.iadd, 1) := by decide +kernel
theorem dX12_high_9 : decode cX12_high 9 = .ok (.aload_n 0, 1) := by decide +kernel
theorem dX12_high_10 : decode cX12_high 10 = .ok (.getfield 50, 3) := by decide +kernel
theorem dX12_high_13 : decode cX12_high 13 = .ok (.iconst 3, 1) := by decide +kernel
theorem dX12_high_14 : decode cX12_high 14 = .ok (.iload_n 1, 1) := by decide +kernel
theorem dX12_high_15 : decode cX12_high 15 = .ok (.imul, 1) := by decide +kernel
theorem dX12_high_16 : decode cX12_high 16 = .ok (.iconst 2, 1) := by decide +kernel
theorem dX12_high_17 : decode cX12_high 17 = .ok (.iadd, 1) := by decide +kernel
theorem dX12_high_18 : decode cX12_high 18 = .ok (.iaload, 1) := by decide +kernel
theorem dX12_high_19 : decode cX12_high 19 = .ok (.isub, 1) := by decide +kernel
theorem dX12_high_20 : decode cX12_high 20 = .ok (.iaload, 1) := by decide +kernel
theorem dX12_high_21 : decode cX12_high 21 = .ok (.ireturn, 1) := by decide +kernel
def wp_X12_high (h : AH) (a0 : Nat) (x1 : Int32) (post : AH → Int32 → Prop) : Prop := (ob h a0 11) ∧ (∃ rv1, aP h a0 25 = some rv1 ∧ ((ob h a0 11) ∧ (∃ rv2, aP h a0 24 = some rv2 ∧ ((ob h rv2 13) ∧ ((vp_in (((3 : Int32) * x1) + (2 : Int32)) (aL h rv2)) ∧ ((ob h rv1 13) ∧ ((vp_in ((((3 : Int32) * x1) + (1 : Int32)) - (aI h rv2 (((3 : Int32) * x1) + (2 : Int32)).toNatClampNeg)) (aL h rv1)) ∧ (post h (aI h rv1 ((((3 : Int32) * x1) + (1 : Int32)) - (aI h rv2 (((3 : Int32) * x1) + (2 : Int32)).toNatClampNeg)).toNatClampNeg)))))))))
set_option maxRecDepth 100000 in
theorem c_X12_high (G : GG) (h : AH) (a0 : Nat) (x1 : Int32) (post : AH → Int32 → Prop) (hw : wp_X12_high h a0 x1 post) : MC G yX12_high cX12_high 2 (some .int) 0 0 h [.ref (G.1 + a0), .int x1] (pI post) := by
  refine MC.of (lv := [(0, .ref (G.1 + a0)), (1, .int x1)]) (by decide) (Nat.le_of_ble_eq_true rfl) rfl fun p l e R s m args below meth c C hr hnm => ?_
  unfold wp_X12_high at hw
  refine r_aload_n C dX12_high_0 0 rfl ?_
  have hob := hw.1
  obtain ⟨rv1, hp, hw⟩ := hw.2
  refine r_getP C fl_RX12_53_11 hob hp (fun _ _ _ => rfl) dX12_high_1 ?_
  refine r_iconst (v := 3) C dX12_high_4 (by decide) ?_
  refine r_iload_n C dX12_high_5 1 rfl ?_
  refine r_imul C dX12_high_6 ?_
  refine r_iconst (v := 1) C dX12_high_7 (by decide) ?_
  refine r_iadd C dX12_high_8 ?_
  refine r_aload_n C dX12_high_9 0 rfl ?_
  have hob := hw.1
  obtain ⟨rv2, hp, hw⟩ := hw.2
  refine r_getP C fl_RX12_50_11 hob hp (fun _ _ _ => rfl) dX12_high_10 ?_
  refine r_iconst (v := 3) C dX12_high_13 (by decide) ?_
  refine r_iload_n C dX12_high_14 1 rfl ?_
  refine r_imul C dX12_high_15 ?_
  refine r_iconst (v := 2) C dX12_high_16 (by decide) ?_
  refine r_iadd C dX12_high_17 ?_
  refine r_iaload C hw.1 hw.2.1 dX12_high_18 ?_
  replace hw := hw.2.2
  refine r_isub C dX12_high_19 ?_
  refine r_iaload C hw.1 hw.2.1 dX12_high_20 ?_
  replace hw := hw.2.2
  exact r_iret C hr dX12_high_21 hw
theorem dX12_gapOf_0 : decode cX12_gapOf 0 = .ok (.aload_n 0, 1) := by decide +kernel
theorem dX12_gapOf_1 : decode cX12_gapOf 1 = .ok (.getfield 50, 3) := by decide +kernel
theorem dX12_gapOf_4 : decode cX12_gapOf 4 = .ok (.iconst 3, 1) := by decide +kernel
theorem dX12_gapOf_5 : decode cX12_gapOf 5 = .ok (.iload_n 1, 1) := by decide +kernel
theorem dX12_gapOf_6 : decode cX12_gapOf 6 = .ok (.imul, 1) := by decide +kernel
theorem dX12_gapOf_7 : decode cX12_gapOf 7 = .ok (.iaload, 1) := by decide +kernel
theorem dX12_gapOf_8 : decode cX12_gapOf 8 = .ok (.aload_n 0, 1) := by decide +kernel
theorem dX12_gapOf_9 : decode cX12_gapOf 9 = .ok (.iload_n 1, 1) := by decide +kernel
theorem dX12_gapOf_10 : decode cX12_gapOf 10 = .ok (.invokevirtual 297, 3) := by decide +kernel
theorem dX12_gapOf_13 : decode cX12_gapOf 13 = .ok (.aload_n 0, 1) := by decide +kernel
theorem dX12_gapOf_14 : decode cX12_gapOf 14 = .ok (.getfield 50, 3) := by decide +kernel
theorem dX12_gapOf_17 : decode cX12_gapOf 17 = .ok (.iconst 3, 1) := by decide +kernel
theorem dX12_gapOf_18 : decode cX12_gapOf 18 = .ok (.iload_n 2, 1) := by decide +kernel
theorem dX12_gapOf_19 : decode cX12_gapOf 19 = .ok (.imul, 1) := by decide +kernel
theorem dX12_gapOf_20 : decode cX12_gapOf 20 = .ok (.iaload, 1) := by decide +kernel
theorem dX12_gapOf_21 : decode cX12_gapOf 21 = .ok (.aload_n 0, 1) := by decide +kernel
theorem dX12_gapOf_22 : decode cX12_gapOf 22 = .ok (.iload_n 2, 1) := by decide +kernel
theorem dX12_gapOf_23 : decode cX12_gapOf 23 = .ok (.invokevirtual 297, 3) := by decide +kernel
theorem dX12_gapOf_26 : decode cX12_gapOf 26 = .ok (.invokestatic 303, 3) := by decide +kernel
theorem dX12_gapOf_29 : decode cX12_gapOf 29 = .ok (.istore_n 3, 1) := by decide +kernel
theorem dX12_gapOf_30 : decode cX12_gapOf 30 = .ok (.aload_n 0, 1) := by decide +kernel
theorem dX12_gapOf_31 : decode cX12_gapOf 31 = .ok (.getfield 50, 3) := by decide +kernel
theorem dX12_gapOf_34 : decode cX12_gapOf 34 = .ok (.iconst 3, 1) := by decide +kernel
theorem dX12_gapOf_35 : decode cX12_gapOf 35 = .ok (.iload_n 1, 1) := by decide +kernel
theorem dX12_gapOf_36 : decode cX12_gapOf 36 = .ok (.imul, 1) := by decide +kernel
theorem dX12_gapOf_37 : decode cX12_gapOf 37 = .ok (.iconst 1, 1) := by decide +kernel
theorem dX12_gapOf_38 : decode cX12_gapOf 38 = .ok (.iadd, 1) := by decide +kernel
theorem dX12_gapOf_39 : decode cX12_gapOf 39 = .ok (.iaload, 1) := by decide +kernel
theorem dX12_gapOf_40 : decode cX12_gapOf 40 = .ok (.aload_n 0, 1) := by decide +kernel
theorem dX12_gapOf_41 : decode cX12_gapOf 41 = .ok (.iload_n 1, 1) := by decide +kernel
theorem dX12_gapOf_42 : decode cX12_gapOf 42 = .ok (.invokevirtual 300, 3) := by decide +kernel
theorem dX12_gapOf_45 : decode cX12_gapOf 45 = .ok (.aload_n 0, 1) := by decide +kernel
theorem dX12_gapOf_46 : decode cX12_gapOf 46 = .ok (.getfield 50, 3) := by decide +kernel
theorem dX12_gapOf_49 : decode cX12_gapOf 49 = .ok (.iconst 3, 1) := by decide +kernel
theorem dX12_gapOf_50 : decode cX12_gapOf 50 = .ok (.iload_n 2, 1) := by decide +kernel
theorem dX12_gapOf_51 : decode cX12_gapOf 51 = .ok (.imul, 1) := by decide +kernel
theorem dX12_gapOf_52 : decode cX12_gapOf 52 = .ok (.iconst 1, 1) := by decide +kernel
theorem dX12_gapOf_53 : decode cX12_gapOf 53 = .ok (.iadd, 1) := by decide +kernel
theorem dX12_gapOf_54 : decode cX12_gapOf 54 = .ok (.iaload, 1) := by decide +kernel
theorem dX12_gapOf_55 : decode cX12_gapOf 55 = .ok (.aload_n 0, 1) := by decide +kernel
theorem dX12_gapOf_56 : decode cX12_gapOf 56 = .ok (.iload_n 2, 1) := by decide +kernel
theorem dX12_gapOf_57 : decode cX12_gapOf 57 = .ok (.invokevirtual 300, 3) := by decide +kernel
theorem dX12_gapOf_60 : decode cX12_gapOf 60 = .ok (.invokestatic 303, 3) := by decide +kernel
theorem dX12_gapOf_63 : decode cX12_gapOf 63 = .ok (.istore 4, 2) := by decide +kernel
theorem dX12_gapOf_65 : decode cX12_gapOf 65 = .ok (.iload_n 3, 1) := by decide +kernel
theorem dX12_gapOf_66 : decode cX12_gapOf 66 = .ok (.iload 4, 2) := by decide +kernel
theorem dX12_gapOf_68 : decode cX12_gapOf 68 = .ok (.if_icmp .le 7, 3) := by decide +kernel
theorem dX12_gapOf_71 : decode cX12_gapOf 71 = .ok (.iload_n 3, 1) := by decide +kernel
theorem dX12_gapOf_72 : decode cX12_gapOf 72 = .ok (.goto 5, 3) := by decide +kernel
theorem dX12_gapOf_75 : decode cX12_gapOf 75 = .ok (.iload 4, 2) := by decide +kernel
theorem dX12_gapOf_77 : decode cX12_gapOf 77 = .ok (.ireturn, 1) := by decide +kernel
def wp_X12_gapOf (h : AH) (a0 : Nat) (x1 : Int32) (x2 : Int32) (post : AH → Int32 → Prop) : Prop := (ob h a0 11) ∧ (∃ rv1, aP h a0 24 = some rv1 ∧ ((ob h rv1 13) ∧ ((vp_in ((3 : Int32) * x1) (aL h rv1)) ∧ ((ob h a0 11) ∧ wp_X12_wide h a0 x1 (fun hv2 iv3 => (ob hv2 a0 11) ∧ (∃ rv4, aP hv2 a0 24 = some rv4 ∧ ((ob hv2 rv4 13) ∧ ((vp_in ((3 : Int32) * x2) (aL hv2 rv4)) ∧ ((ob hv2 a0 11) ∧ wp_X12_wide hv2 a0 x2 (fun hv5 iv6 => wp_X12_between hv5 (aI h rv1 ((3 : Int32) * x1).toNatClampNeg) iv3 (aI hv2 rv4 ((3 : Int32) * x2).toNatClampNeg) iv6 (fun hv7 iv8 => (ob hv7 a0 11) ∧ (∃ rv9, aP hv7 a0 24 = some rv9 ∧ ((ob hv7 rv9 13) ∧ ((vp_in (((3 : Int32) * x1) + (1 : Int32)) (aL hv7 rv9)) ∧ ((ob hv7 a0 11) ∧ wp_X12_high hv7 a0 x1 (fun hv10 iv11 => (ob hv10 a0 11) ∧ (∃ rv12, aP hv10 a0 24 = some rv12 ∧ ((ob hv10 rv12 13) ∧ ((vp_in (((3 : Int32) * x2) + (1 : Int32)) (aL hv10 rv12)) ∧ ((ob hv10 a0 11) ∧ wp_X12_high hv10 a0 x2 (fun hv13 iv14 => wp_X12_between hv13 (aI hv7 rv9 (((3 : Int32) * x1) + (1 : Int32)).toNatClampNeg) iv11 (aI hv10 rv12 (((3 : Int32) * x2) + (1 : Int32)).toNatClampNeg) iv14 (fun hv15 iv16 => (iv8 ≤ iv16 → (post hv15 iv16)) ∧ (¬ iv8 ≤ iv16 → (post hv15 iv8))))))))))))))))))))))))
set_option maxRecDepth 100000 in
theorem c_X12_gapOf (G : GG) (h : AH) (a0 : Nat) (x1 : Int32) (x2 : Int32) (post : AH → Int32 → Prop) (hw : wp_X12_gapOf h a0 x1 x2 post) : MC G yX12_gapOf cX12_gapOf 5 (some .int) 1 23 h [.ref (G.1 + a0), .int x1, .int x2] (pI post) := by
  refine MC.of (lv := [(0, .ref (G.1 + a0)), (1, .int x1), (2, .int x2)]) (by decide) (Nat.le_of_ble_eq_true rfl) rfl fun p l e R s m args below meth c C hr hnm => ?_
  unfold wp_X12_gapOf at hw
  refine r_aload_n C dX12_gapOf_0 0 rfl ?_
  have hob := hw.1
  obtain ⟨rv1, hp, hw⟩ := hw.2
  refine r_getP C fl_RX12_50_11 hob hp (fun _ _ _ => rfl) dX12_gapOf_1 ?_
  refine r_iconst (v := 3) C dX12_gapOf_4 (by decide) ?_
  refine r_iload_n C dX12_gapOf_5 1 rfl ?_
  refine r_imul C dX12_gapOf_6 ?_
  refine r_iaload C hw.1 hw.2.1 dX12_gapOf_7 ?_
  replace hw := hw.2.2
  refine r_aload_n C dX12_gapOf_8 0 rfl ?_
  refine r_iload_n C dX12_gapOf_9 1 rfl ?_
  have hob := hw.1
  replace hw := hw.2
  refine r_callV C (As := [.int x1]) (rest := [.int (aI h rv1 ((3 : Int32) * x1).toNatClampNeg)]) (c_X12_wide G h a0 x1 _ hw) yl_X12_wide (gm7 (List.mem_of_getElem? (i := 227) rfl) rfl) (gm7 (List.mem_of_getElem? (i := 229) rfl) rfl) (ci := 11) rfl (by decide) (gsel (List.mem_of_getElem? (i := 57) rfl)) hob (by decide) rfl (Nat.le_of_ble_eq_true rfl) dX12_gapOf_10 rfl (kI fun hv2 iv3 hw => ?_)
  refine r_aload_n C dX12_gapOf_13 0 rfl ?_
  have hob := hw.1
  obtain ⟨rv4, hp, hw⟩ := hw.2
  refine r_getP C fl_RX12_50_11 hob hp (fun _ _ _ => rfl) dX12_gapOf_14 ?_
  refine r_iconst (v := 3) C dX12_gapOf_17 (by decide) ?_
  refine r_iload_n C dX12_gapOf_18 2 rfl ?_
  refine r_imul C dX12_gapOf_19 ?_
  refine r_iaload C hw.1 hw.2.1 dX12_gapOf_20 ?_
  replace hw := hw.2.2
  refine r_aload_n C dX12_gapOf_21 0 rfl ?_
  refine r_iload_n C dX12_gapOf_22 2 rfl ?_
  have hob := hw.1
  replace hw := hw.2
  refine r_callV C (As := [.int x2]) (rest := [.int (aI hv2 rv4 ((3 : Int32) * x2).toNatClampNeg), .int iv3, .int (aI h rv1 ((3 : Int32) * x1).toNatClampNeg)]) (c_X12_wide G hv2 a0 x2 _ hw) yl_X12_wide (gm7 (List.mem_of_getElem? (i := 227) rfl) rfl) (gm7 (List.mem_of_getElem? (i := 229) rfl) rfl) (ci := 11) rfl (by decide) (gsel (List.mem_of_getElem? (i := 57) rfl)) hob (by decide) rfl (Nat.le_of_ble_eq_true rfl) dX12_gapOf_23 rfl (kI fun hv5 iv6 hw => ?_)
  refine r_callS C (As := [.int (aI h rv1 ((3 : Int32) * x1).toNatClampNeg), .int iv3, .int (aI hv2 rv4 ((3 : Int32) * x2).toNatClampNeg), .int iv6]) (rest := []) (c_X12_between G hv5 (aI h rv1 ((3 : Int32) * x1).toNatClampNeg) iv3 (aI hv2 rv4 ((3 : Int32) * x2).toNatClampNeg) iv6 _ hw) yl_X12_between (gm7 (List.mem_of_getElem? (i := 231) rfl) rfl) (gm7 (List.mem_of_getElem? (i := 232) rfl) rfl) (by decide) rfl (Nat.le_of_ble_eq_true rfl) dX12_gapOf_26 rfl (kI fun hv7 iv8 hw => ?_)
  refine r_istore_n C dX12_gapOf_29 [(3, .int iv8), (0, .ref (G.1 + a0)), (1, .int x1), (2, .int x2)] (by decide) rfl ?_
  refine r_aload_n C dX12_gapOf_30 1 rfl ?_
  have hob := hw.1
  obtain ⟨rv9, hp, hw⟩ := hw.2
  refine r_getP C fl_RX12_50_11 hob hp (fun _ _ _ => rfl) dX12_gapOf_31 ?_
  refine r_iconst (v := 3) C dX12_gapOf_34 (by decide) ?_
  refine r_iload_n C dX12_gapOf_35 2 rfl ?_
  refine r_imul C dX12_gapOf_36 ?_
  refine r_iconst (v := 1) C dX12_gapOf_37 (by decide) ?_
  refine r_iadd C dX12_gapOf_38 ?_
  refine r_iaload C hw.1 hw.2.1 dX12_gapOf_39 ?_
  replace hw := hw.2.2
  refine r_aload_n C dX12_gapOf_40 1 rfl ?_
  refine r_iload_n C dX12_gapOf_41 2 rfl ?_
  have hob := hw.1
  replace hw := hw.2
  refine r_callV C (As := [.int x1]) (rest := [.int (aI hv7 rv9 (((3 : Int32) * x1) + (1 : Int32)).toNatClampNeg)]) (c_X12_high G hv7 a0 x1 _ hw) yl_X12_high (gm7 (List.mem_of_getElem? (i := 234) rfl) rfl) (gm7 (List.mem_of_getElem? (i := 236) rfl) rfl) (ci := 11) rfl (by decide) (gsel (List.mem_of_getElem? (i := 58) rfl)) hob (by decide) rfl (Nat.le_of_ble_eq_true rfl) dX12_gapOf_42 rfl (kI fun hv10 iv11 hw => ?_)
  refine r_aload_n C dX12_gapOf_45 1 rfl ?_
  have hob := hw.1
  obtain ⟨rv12, hp, hw⟩ := hw.2
  refine r_getP C fl_RX12_50_11 hob hp (fun _ _ _ => rfl) dX12_gapOf_46 ?_
  refine r_iconst (v := 3) C dX12_gapOf_49 (by decide) ?_
  refine r_iload_n C dX12_gapOf_50 3 rfl ?_
  refine r_imul C dX12_gapOf_51 ?_
  refine r_iconst (v := 1) C dX12_gapOf_52 (by decide) ?_
  refine r_iadd C dX12_gapOf_53 ?_
  refine r_iaload C hw.1 hw.2.1 dX12_gapOf_54 ?_
  replace hw := hw.2.2
  refine r_aload_n C dX12_gapOf_55 1 rfl ?_
  refine r_iload_n C dX12_gapOf_56 3 rfl ?_
  have hob := hw.1
  replace hw := hw.2
  refine r_callV C (As := [.int x2]) (rest := [.int (aI hv10 rv12 (((3 : Int32) * x2) + (1 : Int32)).toNatClampNeg), .int iv11, .int (aI hv7 rv9 (((3 : Int32) * x1) + (1 : Int32)).toNatClampNeg)]) (c_X12_high G hv10 a0 x2 _ hw) yl_X12_high (gm7 (List.mem_of_getElem? (i := 234) rfl) rfl) (gm7 (List.mem_of_getElem? (i := 236) rfl) rfl) (ci := 11) rfl (by decide) (gsel (List.mem_of_getElem? (i := 58) rfl)) hob (by decide) rfl (Nat.le_of_ble_eq_true rfl) dX12_gapOf_57 rfl (kI fun hv13 iv14 hw => ?_)
  refine r_callS C (As := [.int (aI hv7 rv9 (((3 : Int32) * x1) + (1 : Int32)).toNatClampNeg), .int iv11, .int (aI hv10 rv12 (((3 : Int32) * x2) + (1 : Int32)).toNatClampNeg), .int iv14]) (rest := []) (c_X12_between G hv13 (aI hv7 rv9 (((3 : Int32) * x1) + (1 : Int32)).toNatClampNeg) iv11 (aI hv10 rv12 (((3 : Int32) * x2) + (1 : Int32)).toNatClampNeg) iv14 _ hw) yl_X12_between (gm7 (List.mem_of_getElem? (i := 231) rfl) rfl) (gm7 (List.mem_of_getElem? (i := 232) rfl) rfl) (by decide) rfl (Nat.le_of_ble_eq_true rfl) dX12_gapOf_60 rfl (kI fun hv15 iv16 hw => ?_)
  refine r_istore C dX12_gapOf_63 [(4, .int iv16), (3, .int iv8), (0, .ref (G.1 + a0)), (1, .int x1), (2, .int x2)] (by decide) rfl ?_
  refine r_iload_n C dX12_gapOf_65 1 rfl ?_
  refine r_iload C dX12_gapOf_66 0 rfl ?_
  refine r_icmp_le C dX12_gapOf_68 75 (by decide) (fun hc => ?_) (fun hc => ?_)
  · replace hw := hw.1 hc
    refine r_iload C dX12_gapOf_75 0 rfl ?_
    exact r_iret C hr dX12_gapOf_77 hw
  · replace hw := hw.2 hc
    refine r_iload_n C dX12_gapOf_71 1 rfl ?_
    refine r_goto C dX12_gapOf_72 77 (by decide) ?_
    exact r_iret C hr dX12_gapOf_77 hw
theorem dX12_readRope_0 : decode cX12_readRope 0 = .ok (.aload_n 0, 1) := by decide +kernel
theorem dX12_readRope_1 : decode cX12_readRope 1 = .ok (.getfield 37, 3) := by decide +kernel
theorem dX12_readRope_4 : decode cX12_readRope 4 = .ok (.iconst 4, 1) := by decide +kernel
theorem dX12_readRope_5 : decode cX12_readRope 5 = .ok (.iaload, 1) := by decide +kernel
theorem dX12_readRope_6 : decode cX12_readRope 6 = .ok (.istore_n 1, 1) := by decide +kernel
theorem dX12_readRope_7 : decode cX12_readRope 7 = .ok (.iload_n 1, 1) := by decide +kernel
theorem dX12_readRope_8 : decode cX12_readRope 8 = .ok (.bipush 8, 2) := by decide +kernel
theorem dX12_readRope_10 : decode cX12_readRope 10 = .ok (.if_icmp .ne 9, 3) := by decide +kernel
theorem dX12_readRope_13 : decode cX12_readRope 13 = .ok (.aload_n 0, 1) := by decide +kernel
theorem dX12_readRope_14 : decode cX12_readRope 14 = .ok (.iconst 4, 1) := by decide +kernel
theorem dX12_readRope_15 : decode cX12_readRope 15 = .ok (.invokevirtual 190, 3) := by decide +kernel
theorem dX12_readRope_18 : decode cX12_readRope 18 = .ok (.ireturn, 1) := by decide +kernel
theorem dX12_readRope_19 : decode cX12_readRope 19 = .ok (.aload_n 0, 1) := by decide +kernel
theorem dX12_readRope_20 : decode cX12_readRope 20 = .ok (.invokevirtual 193, 3) := by decide +kernel
theorem dX12_readRope_23 : decode cX12_readRope 23 = .ok (.aload_n 0, 1) := by decide +kernel
theorem dX12_readRope_24 : decode cX12_readRope 24 = .ok (.bipush 8, 2) := by decide +kernel
theorem dX12_readRope_26 : decode cX12_readRope 26 = .ok (.aload_n 0, 1) := by decide +kernel
theorem dX12_readRope_27 : decode cX12_readRope 27 = .ok (.getfield 37, 3) := by decide +kernel
theorem dX12_readRope_30 : decode cX12_readRope 30 = .ok (.iconst 2, 1) := by decide +kernel
theorem dX12_readRope_31 : decode cX12_readRope 31 = .ok (.iaload, 1) := by decide +kernel
theorem dX12_readRope_32 : decode cX12_readRope 32 = .ok (.iconst (-1), 1) := by decide +kernel
theorem dX12_readRope_33 : decode cX12_readRope 33 = .ok (.invokevirtual 259, 3) := by decide +kernel
theorem dX12_readRope_36 : decode cX12_readRope 36 = .ok (.ifCond .ne 5, 3) := by decide +kernel
theorem dX12_readRope_39 : decode cX12_readRope 39 = .ok (.iconst 0, 1) := by decide +kernel
theorem dX12_readRope_40 : decode cX12_readRope 40 = .ok (.ireturn, 1) := by decide +kernel
theorem dX12_readRope_41 : decode cX12_readRope 41 = .ok (.aload_n 0, 1) := by decide +kernel
theorem dX12_readRope_42 : decode cX12_readRope 42 = .ok (.getfield 200, 3) := by decide +kernel
theorem dX12_readRope_45 : decode cX12_readRope 45 = .ok (.istore_n 2, 1) := by decide +kernel
theorem dX12_readRope_46 : decode cX12_readRope 46 = .ok (.aload_n 0, 1) := by decide +kernel
theorem dX12_readRope_47 : decode cX12_readRope 47 = .ok (.invokevirtual 203, 3) := by decide +kernel
theorem dX12_readRope_50 : decode cX12_readRope 50 = .ok (.ifCond .ne 9, 3) := by decide +kernel
theorem dX12_readRope_53 : decode cX12_readRope 53 = .ok (.aload_n 0, 1) := by decide +kernel
theorem dX12_readRope_54 : decode cX12_readRope 54 = .ok (.iconst 1, 1) := by decide +kernel
theorem dX12_readRope_55 : decode cX12_readRope 55 = .ok (.invokevirtual 190, 3) := by decide +kernel
theorem dX12_readRope_58 : decode cX12_readRope 58 = .ok (.ireturn, 1) := by decide +kernel
theorem dX12_readRope_59 : decode cX12_readRope 59 = .ok (.aload_n 0, 1) := by decide +kernel
theorem dX12_readRope_60 : decode cX12_readRope 60 = .ok (.bipush 8, 2) := by decide +kernel
theorem dX12_readRope_62 : decode cX12_readRope 62 = .ok (.aload_n 0, 1) := by decide +kernel
theorem dX12_readRope_63 : decode cX12_readRope 63 = .ok (.getfield 37, 3) := by decide +kernel
theorem dX12_readRope_66 : decode cX12_readRope 66 = .ok (.iconst 2, 1) := by decide +kernel
theorem dX12_readRope_67 : decode cX12_readRope 67 = .ok (.iaload, 1) := by decide +kernel
theorem dX12_readRope_68 : decode cX12_readRope 68 = .ok (.invokevirtual 207, 3) := by decide +kernel
theorem dX12_readRope_71 : decode cX12_readRope 71 = .ok (.istore_n 3, 1) := by decide +kernel
theorem dX12_readRope_72 : decode cX12_readRope 72 = .ok (.iload_n 3, 1) := by decide +kernel
theorem dX12_readRope_73 : decode cX12_readRope 73 = .ok (.ifCond .lt 12, 3) := by decide +kernel
theorem dX12_readRope_76 : decode cX12_readRope 76 = .ok (.iload_n 3, 1) := by decide +kernel
theorem dX12_readRope_77 : decode cX12_readRope 77 = .ok (.iload_n 2, 1) := by decide +kernel
theorem dX12_readRope_78 : decode cX12_readRope 78 = .ok (.if_icmp .eq 7, 3) := by decide +kernel
theorem dX12_readRope_81 : decode cX12_readRope 81 = .ok (.iconst 1, 1) := by decide +kernel
theorem dX12_readRope_82 : decode cX12_readRope 82 = .ok (.goto 4, 3) := by decide +kernel
theorem dX12_readRope_85 : decode cX12_readRope 85 = .ok (.iconst 0, 1) := by decide +kernel
theorem dX12_readRope_86 : decode cX12_readRope 86 = .ok (.istore 4, 2) := by decide +kernel
theorem dX12_readRope_88 : decode cX12_readRope 88 = .ok (.iconst 0, 1) := by decide +kernel
theorem dX12_readRope_89 : decode cX12_readRope 89 = .ok (.istore 5, 2) := by decide +kernel
theorem dX12_readRope_91 : decode cX12_readRope 91 = .ok (.iload 5, 2) := by decide +kernel
theorem dX12_readRope_93 : decode cX12_readRope 93 = .ok (.iload_n 1, 1) := by decide +kernel
theorem dX12_readRope_94 : decode cX12_readRope 94 = .ok (.if_icmp .ge 77, 3) := by decide +kernel
theorem dX12_readRope_97 : decode cX12_readRope 97 = .ok (.aload_n 0, 1) := by decide +kernel
theorem dX12_readRope_98 : decode cX12_readRope 98 = .ok (.getfield 37, 3) := by decide +kernel
theorem dX12_readRope_101 : decode cX12_readRope 101 = .ok (.sipush 135, 3) := by decide +kernel
theorem dX12_readRope_104 : decode cX12_readRope 104 = .ok (.iconst 4, 1) := by decide +kernel
theorem dX12_readRope_105 : decode cX12_readRope 105 = .ok (.iload 5, 2) := by decide +kernel
theorem dX12_readRope_107 : decode cX12_readRope 107 = .ok (.imul, 1) := by decide +kernel
theorem dX12_readRope_108 : decode cX12_readRope 108 = .ok (.iadd, 1) := by decide +kernel
theorem dX12_readRope_109 : decode cX12_readRope 109 = .ok (.iaload, 1) := by decide +kernel
theorem dX12_readRope_110 : decode cX12_readRope 110 = .ok (.istore 6, 2) := by decide +kernel
theorem dX12_readRope_112 : decode cX12_readRope 112 = .ok (.aload_n 0, 1) := by decide +kernel
theorem dX12_readRope_113 : decode cX12_readRope 113 = .ok (.getfield 37, 3) := by decide +kernel
theorem dX12_readRope_116 : decode cX12_readRope 116 = .ok (.sipush 135, 3) := by decide +kernel
theorem dX12_readRope_119 : decode cX12_readRope 119 = .ok (.iconst 4, 1) := by decide +kernel
theorem dX12_readRope_120 : decode cX12_readRope 120 = .ok (.iload 5, 2) := by decide +kernel
theorem dX12_readRope_122 : decode cX12_readRope 122 = .ok (.imul, 1) := by decide +kernel
theorem dX12_readRope_123 : decode cX12_readRope 123 = .ok (.iadd, 1) := by decide +kernel
theorem dX12_readRope_124 : decode cX12_readRope 124 = .ok (.iconst 1, 1) := by decide +kernel
theorem dX12_readRope_125 : decode cX12_readRope 125 = .ok (.iadd, 1) := by decide +kernel
theorem dX12_readRope_126 : decode cX12_readRope 126 = .ok (.iaload, 1) := by decide +kernel
theorem dX12_readRope_127 : decode cX12_readRope 127 = .ok (.istore 7, 2) := by decide +kernel
theorem dX12_readRope_129 : decode cX12_readRope 129 = .ok (.iload 4, 2) := by decide +kernel
theorem dX12_readRope_131 : decode cX12_readRope 131 = .ok (.ifCond .eq 31, 3) := by decide +kernel
theorem dX12_readRope_134 : decode cX12_readRope 134 = .ok (.iload 6, 2) := by decide +kernel
theorem dX12_readRope_136 : decode cX12_readRope 136 = .ok (.iload_n 2, 1) := by decide +kernel
theorem dX12_readRope_137 : decode cX12_readRope 137 = .ok (.if_icmp .ne 9, 3) := by decide +kernel
theorem dX12_readRope_140 : decode cX12_readRope 140 = .ok (.iload 7, 2) := by decide +kernel
theorem dX12_readRope_142 : decode cX12_readRope 142 = .ok (.iload_n 3, 1) := by decide +kernel
theorem dX12_readRope_143 : decode cX12_readRope 143 = .ok (.if_icmp .eq 19, 3) := by decide +kernel
theorem dX12_readRope_146 : decode cX12_readRope 146 = .ok (.iload 6, 2) := by decide +kernel
theorem dX12_readRope_148 : decode cX12_readRope 148 = .ok (.iload_n 3, 1) := by decide +kernel
theorem dX12_readRope_149 : decode cX12_readRope 149 = .ok (.if_icmp .ne 9, 3) := by decide +kernel
theorem dX12_readRope_152 : decode cX12_readRope 152 = .ok (.iload 7, 2) := by decide +kernel
theorem dX12_readRope_154 : decode cX12_readRope 154 = .ok (.iload_n 2, 1) := by decide +kernel
theorem dX12_readRope_155 : decode cX12_readRope 155 = .ok (.if_icmp .eq 7, 3) := by decide +kernel
theorem dX12_readRope_158 : decode cX12_readRope 158 = .ok (.iconst 1, 1) := by decide +kernel
theorem dX12_readRope_159 : decode cX12_readRope 159 = .ok (.goto 4, 3) := by decide +kernel
theorem dX12_readRope_162 : decode cX12_readRope 162 = .ok (.iconst 0, 1) := by decide +kernel
theorem dX12_readRope_163 : decode cX12_readRope 163 = .ok (.istore 4, 2) := by decide +kernel
theorem dX12_readRope_165 : decode cX12_readRope 165 = .ok (.iinc 5 1, 3) := by decide +kernel
theorem dX12_readRope_168 : decode cX12_readRope 168 = .ok (.goto (-77), 3) := by decide +kernel
theorem dX12_readRope_171 : decode cX12_readRope 171 = .ok (.iload 4, 2) := by decide +kernel
theorem dX12_readRope_173 : decode cX12_readRope 173 = .ok (.ifCond .ne 9, 3) := by decide +kernel
theorem dX12_readRope_176 : decode cX12_readRope 176 = .ok (.aload_n 0, 1) := by decide +kernel
theorem dX12_readRope_177 : decode cX12_readRope 177 = .ok (.iconst 3, 1) := by decide +kernel
theorem dX12_readRope_178 : decode cX12_readRope 178 = .ok (.invokevirtual 190, 3) := by decide +kernel
theorem dX12_readRope_181 : decode cX12_readRope 181 = .ok (.ireturn, 1) := by decide +kernel
theorem dX12_readRope_182 : decode cX12_readRope 182 = .ok (.aload_n 0, 1) := by decide +kernel
theorem dX12_readRope_183 : decode cX12_readRope 183 = .ok (.invokevirtual 193, 3) := by decide +kernel
theorem dX12_readRope_186 : decode cX12_readRope 186 = .ok (.iconst 0, 1) := by decide +kernel
theorem dX12_readRope_187 : decode cX12_readRope 187 = .ok (.istore 5, 2) := by decide +kernel
theorem dX12_readRope_189 : decode cX12_readRope 189 = .ok (.iload 5, 2) := by decide +kernel
theorem dX12_readRope_191 : decode cX12_readRope 191 = .ok (.bipush 24, 2) := by decide +kernel
theorem dX12_readRope_193 : decode cX12_readRope 193 = .ok (.if_icmp .ge 27, 3) := by decide +kernel
theorem dX12_readRope_196 : decode cX12_readRope 196 = .ok (.aload_n 0, 1) := by decide +kernel
theorem dX12_readRope_197 : decode cX12_readRope 197 = .ok (.getfield 50, 3) := by decide +kernel
theorem dX12_readRope_200 : decode cX12_readRope 200 = .ok (.iload 5, 2) := by decide +kernel
theorem dX12_readRope_202 : decode cX12_readRope 202 = .ok (.aload_n 0, 1) := by decide +kernel
theorem dX12_readRope_203 : decode cX12_readRope 203 = .ok (.getfield 37, 3) := by decide +kernel
theorem dX12_readRope_206 : decode cX12_readRope 206 = .ok (.sipush 225, 3) := by decide +kernel
theorem dX12_readRope_209 : decode cX12_readRope 209 = .ok (.iload 5, 2) := by decide +kernel
theorem dX12_readRope_211 : decode cX12_readRope 211 = .ok (.iadd, 1) := by decide +kernel
theorem dX12_readRope_212 : decode cX12_readRope 212 = .ok (.iaload, 1) := by decide +kernel
theorem dX12_readRope_213 : decode cX12_readRope 213 = .ok (.iastore, 1) := by decide +kernel
theorem dX12_readRope_214 : decode cX12_readRope 214 = .ok (.iinc 5 1, 3) := by decide +kernel
theorem dX12_readRope_217 : decode cX12_readRope 217 = .ok (.goto (-28), 3) := by decide +kernel
theorem dX12_readRope_220 : decode cX12_readRope 220 = .ok (.iconst 0, 1) := by decide +kernel
theorem dX12_readRope_221 : decode cX12_readRope 221 = .ok (.istore 5, 2) := by decide +kernel
theorem dX12_readRope_223 : decode cX12_readRope 223 = .ok (.iload 5, 2) := by decide +kernel
theorem dX12_readRope_225 : decode cX12_readRope 225 = .ok (.bipush 24, 2) := by decide +kernel
theorem dX12_readRope_227 : decode cX12_readRope 227 = .ok (.if_icmp .ge 26, 3) := by decide +kernel
theorem dX12_readRope_230 : decode cX12_readRope 230 = .ok (.aload_n 0, 1) := by decide +kernel
theorem dX12_readRope_231 : decode cX12_readRope 231 = .ok (.getfield 53, 3) := by decide +kernel
theorem dX12_readRope_234 : decode cX12_readRope 234 = .ok (.iload 5, 2) := by decide +kernel
theorem dX12_readRope_236 : decode cX12_readRope 236 = .ok (.aload_n 0, 1) := by decide +kernel
theorem dX12_readRope_237 : decode cX12_readRope 237 = .ok (.getfield 37, 3) := by decide +kernel
theorem dX12_readRope_240 : decode cX12_readRope 240 = .ok (.bipush 99, 2) := by decide +kernel
theorem dX12_readRope_242 : decode cX12_readRope 242 = .ok (.iload 5, 2) := by decide +kernel
theorem dX12_readRope_244 : decode cX12_readRope 244 = .ok (.iadd, 1) := by decide +kernel
theorem dX12_readRope_245 : decode cX12_readRope 245 = .ok (.iaload, 1) := by decide +kernel
theorem dX12_readRope_246 : decode cX12_readRope 246 = .ok (.iastore, 1) := by decide +kernel
theorem dX12_readRope_247 : decode cX12_readRope 247 = .ok (.iinc 5 1, 3) := by decide +kernel
theorem dX12_readRope_250 : decode cX12_readRope 250 = .ok (.goto (-27), 3) := by decide +kernel
theorem dX12_readRope_253 : decode cX12_readRope 253 = .ok (.aload_n 0, 1) := by decide +kernel
theorem dX12_readRope_254 : decode cX12_readRope 254 = .ok (.aload_n 0, 1) := by decide +kernel
theorem dX12_readRope_255 : decode cX12_readRope 255 = .ok (.iload_n 2, 1) := by decide +kernel
theorem dX12_readRope_256 : decode cX12_readRope 256 = .ok (.iload_n 3, 1) := by decide +kernel
theorem dX12_readRope_257 : decode cX12_readRope 257 = .ok (.invokevirtual 262, 3) := by decide +kernel
theorem dX12_readRope_260 : decode cX12_readRope 260 = .ok (.bipush 9, 2) := by decide +kernel
theorem dX12_readRope_262 : decode cX12_readRope 262 = .ok (.invokevirtual 211, 3) := by decide +kernel
theorem dX12_readRope_265 : decode cX12_readRope 265 = .ok (.ifCond .ne 5, 3) := by decide +kernel
theorem dX12_readRope_268 : decode cX12_readRope 268 = .ok (.iconst 0, 1) := by decide +kernel
theorem dX12_readRope_269 : decode cX12_readRope 269 = .ok (.ireturn, 1) := by decide +kernel
theorem dX12_readRope_270 : decode cX12_readRope 270 = .ok (.sipush 135, 3) := by decide +kernel
theorem dX12_readRope_273 : decode cX12_readRope 273 = .ok (.iconst 4, 1) := by decide +kernel
theorem dX12_readRope_274 : decode cX12_readRope 274 = .ok (.iload_n 1, 1) := by decide +kernel
theorem dX12_readRope_275 : decode cX12_readRope 275 = .ok (.imul, 1) := by decide +kernel
theorem dX12_readRope_276 : decode cX12_readRope 276 = .ok (.iadd, 1) := by decide +kernel
theorem dX12_readRope_277 : decode cX12_readRope 277 = .ok (.istore 5, 2) := by decide +kernel
theorem dX12_readRope_279 : decode cX12_readRope 279 = .ok (.aload_n 0, 1) := by decide +kernel
theorem dX12_readRope_280 : decode cX12_readRope 280 = .ok (.getfield 37, 3) := by decide +kernel
theorem dX12_readRope_283 : decode cX12_readRope 283 = .ok (.iload 5, 2) := by decide +kernel
theorem dX12_readRope_285 : decode cX12_readRope 285 = .ok (.iload_n 2, 1) := by decide +kernel
theorem dX12_readRope_286 : decode cX12_readRope 286 = .ok (.iastore, 1) := by decide +kernel
theorem dX12_readRope_287 : decode cX12_readRope 287 = .ok (.aload_n 0, 1) := by decide +kernel
theorem dX12_readRope_288 : decode cX12_readRope 288 = .ok (.getfield 37, 3) := by decide +kernel
theorem dX12_readRope_291 : decode cX12_readRope 291 = .ok (.iload 5, 2) := by decide +kernel
theorem dX12_readRope_293 : decode cX12_readRope 293 = .ok (.iconst 1, 1) := by decide +kernel
theorem dX12_readRope_294 : decode cX12_readRope 294 = .ok (.iadd, 1) := by decide +kernel
theorem dX12_readRope_295 : decode cX12_readRope 295 = .ok (.iload_n 3, 1) := by decide +kernel
theorem dX12_readRope_296 : decode cX12_readRope 296 = .ok (.iastore, 1) := by decide +kernel
theorem dX12_readRope_297 : decode cX12_readRope 297 = .ok (.aload_n 0, 1) := by decide +kernel
theorem dX12_readRope_298 : decode cX12_readRope 298 = .ok (.getfield 37, 3) := by decide +kernel
theorem dX12_readRope_301 : decode cX12_readRope 301 = .ok (.iload 5, 2) := by decide +kernel
theorem dX12_readRope_303 : decode cX12_readRope 303 = .ok (.iconst 2, 1) := by decide +kernel
theorem dX12_readRope_304 : decode cX12_readRope 304 = .ok (.iadd, 1) := by decide +kernel
theorem dX12_readRope_305 : decode cX12_readRope 305 = .ok (.aload_n 0, 1) := by decide +kernel
theorem dX12_readRope_306 : decode cX12_readRope 306 = .ok (.getfield 200, 3) := by decide +kernel
theorem dX12_readRope_309 : decode cX12_readRope 309 = .ok (.iastore, 1) := by decide +kernel
theorem dX12_readRope_310 : decode cX12_readRope 310 = .ok (.aload_n 0, 1) := by decide +kernel
theorem dX12_readRope_311 : decode cX12_readRope 311 = .ok (.iconst 1, 1) := by decide +kernel
theorem dX12_readRope_312 : decode cX12_readRope 312 = .ok (.bipush 99, 2) := by decide +kernel
theorem dX12_readRope_314 : decode cX12_readRope 314 = .ok (.invokevirtual 211, 3) := by decide +kernel
theorem dX12_readRope_317 : decode cX12_readRope 317 = .ok (.ifCond .ne 5, 3) := by decide +kernel
theorem dX12_readRope_320 : decode cX12_readRope 320 = .ok (.iconst 0, 1) := by decide +kernel
theorem dX12_readRope_321 : decode cX12_readRope 321 = .ok (.ireturn, 1) := by decide +kernel
theorem dX12_readRope_322 : decode cX12_readRope 322 = .ok (.aload_n 0, 1) := by decide +kernel
theorem dX12_readRope_323 : decode cX12_readRope 323 = .ok (.getfield 37, 3) := by decide +kernel
theorem dX12_readRope_326 : decode cX12_readRope 326 = .ok (.iload 5, 2) := by decide +kernel
theorem dX12_readRope_328 : decode cX12_readRope 328 = .ok (.iconst 3, 1) := by decide +kernel
theorem dX12_readRope_329 : decode cX12_readRope 329 = .ok (.iadd, 1) := by decide +kernel
theorem dX12_readRope_330 : decode cX12_readRope 330 = .ok (.aload_n 0, 1) := by decide +kernel
theorem dX12_readRope_331 : decode cX12_readRope 331 = .ok (.getfield 200, 3) := by decide +kernel
theorem dX12_readRope_334 : decode cX12_readRope 334 = .ok (.iastore, 1) := by decide +kernel
theorem dX12_readRope_335 : decode cX12_readRope 335 = .ok (.aload_n 0, 1) := by decide +kernel
theorem dX12_readRope_336 : decode cX12_readRope 336 = .ok (.getfield 37, 3) := by decide +kernel
theorem dX12_readRope_339 : decode cX12_readRope 339 = .ok (.iconst 4, 1) := by decide +kernel
theorem dX12_readRope_340 : decode cX12_readRope 340 = .ok (.dup2, 1) := by decide +kernel
theorem dX12_readRope_341 : decode cX12_readRope 341 = .ok (.iaload, 1) := by decide +kernel
theorem dX12_readRope_342 : decode cX12_readRope 342 = .ok (.iconst 1, 1) := by decide +kernel
theorem dX12_readRope_343 : decode cX12_readRope 343 = .ok (.iadd, 1) := by decide +kernel
theorem dX12_readRope_344 : decode cX12_readRope 344 = .ok (.iastore, 1) := by decide +kernel
theorem dX12_readRope_345 : decode cX12_readRope 345 = .ok (.iconst 1, 1) := by decide +kernel
theorem dX12_readRope_346 : decode cX12_readRope 346 = .ok (.ireturn, 1) := by decide +kernel
def wb_X12_readRope_223 (K223 : AH → Nat → Int32 → Int32 → Int32 → Int32 → Prop) (h : AH) (al0 : Nat) (xl1 : Int32) (xl2 : Int32) (xl3 : Int32) (xl5 : Int32)  (post : AH → Int32 → Prop) : Prop := (24 ≤ xl5 → ((ob h al0 11) ∧ wp_X12_gapOf h al0 xl2 xl3 (fun hv1 iv2 => (ob hv1 al0 11) ∧ wp_X12_takes hv1 al0 iv2 9 (fun hv3 iv4 => (¬ iv4 = 0 → (∀ iv5 : Int32, iv5 = (135 : Int32) + ((4 : Int32) * xl1) → ((ob hv3 al0 11) ∧ (∃ rv6, aP hv3 al0 7 = some rv6 ∧ ((ob hv3 rv6 13) ∧ ((vp_in iv5 (aL hv3 rv6)) ∧ (∀ hv7 : AH, hv7 = hI hv3 rv6 iv5.toNatClampNeg xl2 → ((ob hv7 al0 11) ∧ (∃ rv8, aP hv7 al0 7 = some rv8 ∧ ((ob hv7 rv8 13) ∧ ((vp_in (iv5 + (1 : Int32)) (aL hv7 rv8)) ∧ (∀ hv9 : AH, hv9 = hI hv7 rv8 (iv5 + (1 : Int32)).toNatClampNeg xl3 → ((ob hv9 al0 11) ∧ (∃ rv10, aP hv9 al0 7 = some rv10 ∧ ((ob hv9 al0 11) ∧ ((ob hv9 rv10 13) ∧ ((vp_in (iv5 + (2 : Int32)) (aL hv9 rv10)) ∧ (∀ hv11 : AH, hv11 = hI hv9 rv10 (iv5 + (2 : Int32)).toNatClampNeg (aI hv9 al0 18) → ((ob hv11 al0 11) ∧ wp_X12_takes hv11 al0 1 99 (fun hv12 iv13 => (¬ iv13 = 0 → ((ob hv12 al0 11) ∧ (∃ rv14, aP hv12 al0 7 = some rv14 ∧ ((ob hv12 al0 11) ∧ ((ob hv12 rv14 13) ∧ ((vp_in (iv5 + (3 : Int32)) (aL hv12 rv14)) ∧ (∀ hv15 : AH, hv15 = hI hv12 rv14 (iv5 + (3 : Int32)).toNatClampNeg (aI hv12 al0 18) → ((ob hv15 al0 11) ∧ (∃ rv16, aP hv15 al0 7 = some rv16 ∧ ((ob hv15 rv16 13) ∧ ((vp_in 4 (aL hv15 rv16)) ∧ ((ob hv15 rv16 13) ∧ ((vp_in 4 (aL hv15 rv16)) ∧ (∀ hv17 : AH, hv17 = hI hv15 rv16 (4 : Int32).toNatClampNeg ((aI hv15 rv16 (4 : Int32).toNatClampNeg) + (1 : Int32)) → (((1 : Int32) = 0 ∨ (1 : Int32) = 1) ∧ post hv17 1))))))))))))))) ∧ (iv13 = 0 → (((0 : Int32) = 0 ∨ (0 : Int32) = 1) ∧ post hv12 0)))))))))))))))))))))) ∧ (iv4 = 0 → (((0 : Int32) = 0 ∨ (0 : Int32) = 1) ∧ post hv3 0)))))) ∧ (¬ 24 ≤ xl5 → ((ob h al0 11) ∧ (∃ rv18, aP h al0 25 = some rv18 ∧ ((ob h al0 11) ∧ (∃ rv19, aP h al0 7 = some rv19 ∧ ((ob h rv19 13) ∧ ((vp_in ((99 : Int32) + xl5) (aL h rv19)) ∧ ((ob h rv18 13) ∧ ((vp_in xl5 (aL h rv18)) ∧ (∀ hv20 : AH, hv20 = hI h rv18 xl5.toNatClampNeg (aI h rv19 ((99 : Int32) + xl5).toNatClampNeg) → (∀ iv21 : Int32, iv21 = xl5 + 1 → (K223 hv20 al0 xl1 xl2 xl3 iv21))))))))))))
set_option maxRecDepth 100000 in
theorem tb_X12_readRope_223 {G : GG} {p : Program} {l : Launch} {e : Env} {R : Room} {s : State} {m : MethodId} {args : Array Value} {below : List Frame} {meth : Method} {c : Code} {n0 s0 : Nat} {post : AH → Int32 → Prop} (C : Cx G p R s m args meth c 8 cX12_readRope RX12 n0 s0 3 66) (hr : meth.sig.returnType = (some .boolean)) {K223 : AH → Nat → Int32 → Int32 → Int32 → Int32 → Prop} (hK223 : ∀ (h : AH) (al0 : Nat) (xl1 : Int32) (xl2 : Int32) (xl3 : Int32) (xl5 : Int32), K223 h al0 xl1 xl2 xl3 xl5 → AW G p l e R s m args below meth c 8 (QM G (pI post) args s below n0 s0) 223 [(0, .ref (G.1 + al0)), (1, .int xl1), (2, .int xl2), (3, .int xl3), (5, .int xl5)] [] h) {h : AH} {al0 : Nat} {xl1 : Int32} {xl2 : Int32} {xl3 : Int32} {xl5 : Int32}  (hw : wb_X12_readRope_223 K223 h al0 xl1 xl2 xl3 xl5 post) : AW G p l e R s m args below meth c 8 (QM G (pI post) args s below n0 s0) 223 [(0, .ref (G.1 + al0)), (1, .int xl1), (2, .int xl2), (3, .int xl3), (5, .int xl5)] [] h := by
  unfold wb_X12_readRope_223 at hw
  refine r_iload C dX12_readRope_223 4 rfl ?_
  refine r_bipush (v := 24) C dX12_readRope_225 (by decide) ?_
  refine r_icmp_ge C dX12_readRope_227 253 (by decide) (fun hc => ?_) (fun hc => ?_)
  · replace hw := hw.1 hc
    refine r_aload_n C dX12_readRope_253 0 rfl ?_
    refine r_aload_n C dX12_readRope_254 0 rfl ?_
    refine r_iload_n C dX12_readRope_255 2 rfl ?_
    refine r_iload_n C dX12_readRope_256 3 rfl ?_
    have hob := hw.1
    replace hw := hw.2
    refine r_callV C (As := [.int xl2, .int xl3]) (rest := [.ref (G.1 + al0)]) (c_X12_gapOf G h al0 xl2 xl3 _ hw) yl_X12_gapOf (gm7 (List.mem_of_getElem? (i := 223) rfl) rfl) (gm7 (List.mem_of_getElem? (i := 225) rfl) rfl) (ci := 11) rfl (by decide) (gsel (List.mem_of_getElem? (i := 56) rfl)) hob (by decide) rfl (Nat.le_of_ble_eq_true rfl) dX12_readRope_257 rfl (kI fun hv1 iv2 hw => ?_)
    refine r_bipush (v := 9) C dX12_readRope_260 (by decide) ?_
    have hob := hw.1
    replace hw := hw.2
    refine r_callV C (As := [.int iv2, .int 9]) (rest := []) (c_X12_takes G hv1 al0 iv2 9 _ hw) yl_X12_takes (gm7 (List.mem_of_getElem? (i := 195) rfl) rfl) (gm7 (List.mem_of_getElem? (i := 197) rfl) rfl) (ci := 11) rfl (by decide) (gsel (List.mem_of_getElem? (i := 49) rfl)) hob (by decide) rfl (Nat.le_of_ble_eq_true rfl) dX12_readRope_262 rfl (kI fun hv3 iv4 hw => ?_)
    refine r_if_ne C dX12_readRope_265 270 (by decide) (fun hc => ?_) (fun hc => ?_)
    · replace hw := hw.1 hc
      refine r_sipush (v := 135) C dX12_readRope_270 (by decide) ?_
      refine r_iconst (v := 4) C dX12_readRope_273 (by decide) ?_
      refine r_iload_n C dX12_readRope_274 1 rfl ?_
      refine r_imul C dX12_readRope_275 ?_
      refine r_iadd C dX12_readRope_276 ?_
      refine r_topi fun iv5 eiv5 => ?_
      replace hw := hw iv5 eiv5
      refine r_istore C dX12_readRope_277 [(5, .int iv5), (0, .ref (G.1 + al0)), (1, .int xl1), (2, .int xl2), (3, .int xl3)] (by decide) rfl ?_
      refine r_aload_n C dX12_readRope_279 1 rfl ?_
      have hob := hw.1
      obtain ⟨rv6, hp, hw⟩ := hw.2
      refine r_getP C fl_RX12_37_11 hob hp (fun _ _ _ => rfl) dX12_readRope_280 ?_
      refine r_iload C dX12_readRope_283 0 rfl ?_
      refine r_iload_n C dX12_readRope_285 3 rfl ?_
      refine r_iastore C hw.1 hw.2.1 dX12_readRope_286 ?_
      replace hw := hw.2.2
      refine r_toph fun hv7 ehv7 => ?_
      replace hw := hw hv7 ehv7
      refine r_aload_n C dX12_readRope_287 1 rfl ?_
      have hob := hw.1
      obtain ⟨rv8, hp, hw⟩ := hw.2
      refine r_getP C fl_RX12_37_11 hob hp (fun _ _ _ => rfl) dX12_readRope_288 ?_
      refine r_iload C dX12_readRope_291 0 rfl ?_
      refine r_iconst (v := 1) C dX12_readRope_293 (by decide) ?_
      refine r_iadd C dX12_readRope_294 ?_
      refine r_iload_n C dX12_readRope_295 4 rfl ?_
      refine r_iastore C hw.1 hw.2.1 dX12_readRope_296 ?_
      replace hw := hw.2.2
      refine r_toph fun hv9 ehv9 => ?_
      replace hw := hw hv9 ehv9
      refine r_aload_n C dX12_readRope_297 1 rfl ?_
      have hob := hw.1
      obtain ⟨rv10, hp, hw⟩ := hw.2
      refine r_getP C fl_RX12_37_11 hob hp (fun _ _ _ => rfl) dX12_readRope_298 ?_
      refine r_iload C dX12_readRope_301 0 rfl ?_
      refine r_iconst (v := 2) C dX12_readRope_303 (by decide) ?_
      refine r_iadd C dX12_readRope_304 ?_
      refine r_aload_n C dX12_readRope_305 1 rfl ?_
      refine r_getI C fl_RX12_200_11 hw.1 (fun _ _ _ => rfl) dX12_readRope_306 ?_
      replace hw := hw.2
      refine r_iastore C hw.1 hw.2.1 dX12_readRope_309 ?_
      replace hw := hw.2.2
      refine r_toph fun hv11 ehv11 => ?_
      replace hw := hw hv11 ehv11
      refine r_aload_n C dX12_readRope_310 1 rfl ?_
      refine r_iconst (v := 1) C dX12_readRope_311 (by decide) ?_
      refine r_bipush (v := 99) C dX12_readRope_312 (by decide) ?_
      have hob := hw.1
      replace hw := hw.2
      refine r_callV C (As := [.int 1, .int 99]) (rest := []) (c_X12_takes G hv11 al0 1 99 _ hw) yl_X12_takes (gm7 (List.mem_of_getElem? (i := 195) rfl) rfl) (gm7 (List.mem_of_getElem? (i := 197) rfl) rfl) (ci := 11) rfl (by decide) (gsel (List.mem_of_getElem? (i := 49) rfl)) hob (by decide) rfl (Nat.le_of_ble_eq_true rfl) dX12_readRope_314 rfl (kI fun hv12 iv13 hw => ?_)
      refine r_if_ne C dX12_readRope_317 322 (by decide) (fun hc => ?_) (fun hc => ?_)
      · replace hw := hw.1 hc
        refine r_aload_n C dX12_readRope_322 1 rfl ?_
        have hob := hw.1
        obtain ⟨rv14, hp, hw⟩ := hw.2
        refine r_getP C fl_RX12_37_11 hob hp (fun _ _ _ => rfl) dX12_readRope_323 ?_
        refine r_iload C dX12_readRope_326 0 rfl ?_
        refine r_iconst (v := 3) C dX12_readRope_328 (by decide) ?_
        refine r_iadd C dX12_readRope_329 ?_
        refine r_aload_n C dX12_readRope_330 1 rfl ?_
        refine r_getI C fl_RX12_200_11 hw.1 (fun _ _ _ => rfl) dX12_readRope_331 ?_
        replace hw := hw.2
        refine r_iastore C hw.1 hw.2.1 dX12_readRope_334 ?_
        replace hw := hw.2.2
        refine r_toph fun hv15 ehv15 => ?_
        replace hw := hw hv15 ehv15
        refine r_aload_n C dX12_readRope_335 1 rfl ?_
        have hob := hw.1
        obtain ⟨rv16, hp, hw⟩ := hw.2
        refine r_getP C fl_RX12_37_11 hob hp (fun _ _ _ => rfl) dX12_readRope_336 ?_
        refine r_iconst (v := 4) C dX12_readRope_339 (by decide) ?_
        refine r_dup2 C dX12_readRope_340 rfl rfl ?_
        refine r_iaload C hw.1 hw.2.1 dX12_readRope_341 ?_
        replace hw := hw.2.2
        refine r_iconst (v := 1) C dX12_readRope_342 (by decide) ?_
        refine r_iadd C dX12_readRope_343 ?_
        refine r_iastore C hw.1 hw.2.1 dX12_readRope_344 ?_
        replace hw := hw.2.2
        refine r_toph fun hv17 ehv17 => ?_
        replace hw := hw hv17 ehv17
        refine r_iconst (v := 1) C dX12_readRope_345 (by decide) ?_
        exact r_zret C hr dX12_readRope_346 hw.1 hw.2
      · replace hw := hw.2 hc
        refine r_iconst (v := 0) C dX12_readRope_320 (by decide) ?_
        exact r_zret C hr dX12_readRope_321 hw.1 hw.2
    · replace hw := hw.2 hc
      refine r_iconst (v := 0) C dX12_readRope_268 (by decide) ?_
      exact r_zret C hr dX12_readRope_269 hw.1 hw.2
  · replace hw := hw.2 hc
    refine r_aload_n C dX12_readRope_230 0 rfl ?_
    have hob := hw.1
    obtain ⟨rv18, hp, hw⟩ := hw.2
    refine r_getP C fl_RX12_53_11 hob hp (fun _ _ _ => rfl) dX12_readRope_231 ?_
    refine r_iload C dX12_readRope_234 4 rfl ?_
    refine r_aload_n C dX12_readRope_236 0 rfl ?_
    have hob := hw.1
    obtain ⟨rv19, hp, hw⟩ := hw.2
    refine r_getP C fl_RX12_37_11 hob hp (fun _ _ _ => rfl) dX12_readRope_237 ?_
    refine r_bipush (v := 99) C dX12_readRope_240 (by decide) ?_
    refine r_iload C dX12_readRope_242 4 rfl ?_
    refine r_iadd C dX12_readRope_244 ?_
    refine r_iaload C hw.1 hw.2.1 dX12_readRope_245 ?_
    replace hw := hw.2.2
    refine r_iastore C hw.1 hw.2.1 dX12_readRope_246 ?_
    replace hw := hw.2.2
    refine r_toph fun hv20 ehv20 => ?_
    replace hw := hw hv20 ehv20
    obtain ⟨iv21, eiv21⟩ : ∃ q : Int32, q = xl5 + 1 := ⟨_, rfl⟩
    replace hw := hw iv21 eiv21
    refine r_iinc C dX12_readRope_247 4 rfl (by rw [eiv21]; rfl) [(5, .int iv21), (0, .ref (G.1 + al0)), (1, .int xl1), (2, .int xl2), (3, .int xl3)] (by decide) rfl ?_
    refine r_goto C dX12_readRope_250 223 (by decide) ?_
    refine r_sub [1, 2, 3, 4, 0] rfl ?_
    exact hK223 _ _ _ _ _ _ hw
def wl_X12_readRope_223  (post : AH → Int32 → Prop) : Nat → AH → Nat → Int32 → Int32 → Int32 → Int32 → Prop
  | 0 => fun _ _ _ _ _ _ => False
  | n + 1 => fun h al0 xl1 xl2 xl3 xl5 => wb_X12_readRope_223  (wl_X12_readRope_223  post n) h al0 xl1 xl2 xl3 xl5 post
theorem tl_X12_readRope_223 {G : GG} {p : Program} {l : Launch} {e : Env} {R : Room} {s : State} {m : MethodId} {args : Array Value} {below : List Frame} {meth : Method} {c : Code} {n0 s0 : Nat} {post : AH → Int32 → Prop} (C : Cx G p R s m args meth c 8 cX12_readRope RX12 n0 s0 3 66) (hr : meth.sig.returnType = (some .boolean))   : ∀ (n : Nat) (h : AH) (al0 : Nat) (xl1 : Int32) (xl2 : Int32) (xl3 : Int32) (xl5 : Int32), wl_X12_readRope_223  post n h al0 xl1 xl2 xl3 xl5 → AW G p l e R s m args below meth c 8 (QM G (pI post) args s below n0 s0) 223 [(0, .ref (G.1 + al0)), (1, .int xl1), (2, .int xl2), (3, .int xl3), (5, .int xl5)] [] h := by
  intro n
  induction n with
  | zero => intro h al0 xl1 xl2 xl3 xl5 hw; exact hw.elim
  | succ n ih => intro h al0 xl1 xl2 xl3 xl5 hw; exact tb_X12_readRope_223 C hr  ih hw
def wb_X12_readRope_189 (K189 : AH → Nat → Int32 → Int32 → Int32 → Int32 → Prop) (h : AH) (al0 : Nat) (xl1 : Int32) (xl2 : Int32) (xl3 : Int32) (xl5 : Int32)  (post : AH → Int32 → Prop) : Prop := (24 ≤ xl5 → (∃ n, wl_X12_readRope_223  post n h al0 xl1 xl2 xl3 0)) ∧ (¬ 24 ≤ xl5 → ((ob h al0 11) ∧ (∃ rv1, aP h al0 24 = some rv1 ∧ ((ob h al0 11) ∧ (∃ rv2, aP h al0 7 = some rv2 ∧ ((ob h rv2 13) ∧ ((vp_in ((225 : Int32) + xl5) (aL h rv2)) ∧ ((ob h rv1 13) ∧ ((vp_in xl5 (aL h rv1)) ∧ (∀ hv3 : AH, hv3 = hI h rv1 xl5.toNatClampNeg (aI h rv2 ((225 : Int32) + xl5).toNatClampNeg) → (∀ iv4 : Int32, iv4 = xl5 + 1 → (K189 hv3 al0 xl1 xl2 xl3 iv4))))))))))))
set_option maxRecDepth 100000 in
theorem tb_X12_readRope_189 {G : GG} {p : Program} {l : Launch} {e : Env} {R : Room} {s : State} {m : MethodId} {args : Array Value} {below : List Frame} {meth : Method} {c : Code} {n0 s0 : Nat} {post : AH → Int32 → Prop} (C : Cx G p R s m args meth c 8 cX12_readRope RX12 n0 s0 3 66) (hr : meth.sig.returnType = (some .boolean)) {K189 : AH → Nat → Int32 → Int32 → Int32 → Int32 → Prop} (hK189 : ∀ (h : AH) (al0 : Nat) (xl1 : Int32) (xl2 : Int32) (xl3 : Int32) (xl5 : Int32), K189 h al0 xl1 xl2 xl3 xl5 → AW G p l e R s m args below meth c 8 (QM G (pI post) args s below n0 s0) 189 [(0, .ref (G.1 + al0)), (1, .int xl1), (2, .int xl2), (3, .int xl3), (5, .int xl5)] [] h) {h : AH} {al0 : Nat} {xl1 : Int32} {xl2 : Int32} {xl3 : Int32} {xl5 : Int32}  (hw : wb_X12_readRope_189 K189 h al0 xl1 xl2 xl3 xl5 post) : AW G p l e R s m args below meth c 8 (QM G (pI post) args s below n0 s0) 189 [(0, .ref (G.1 + al0)), (1, .int xl1), (2, .int xl2), (3, .int xl3), (5, .int xl5)] [] h := by
  unfold wb_X12_readRope_189 at hw
  refine r_iload C dX12_readRope_189 4 rfl ?_
  refine r_bipush (v := 24) C dX12_readRope_191 (by decide) ?_
  refine r_icmp_ge C dX12_readRope_193 220 (by decide) (fun hc => ?_) (fun hc => ?_)
  · replace hw := hw.1 hc
    refine r_iconst (v := 0) C dX12_readRope_220 (by decide) ?_
    refine r_istore C dX12_readRope_221 [(5, .int 0), (0, .ref (G.1 + al0)), (1, .int xl1), (2, .int xl2), (3, .int xl3)] (by decide) rfl ?_
    refine r_sub [1, 2, 3, 4, 0] rfl ?_
    obtain ⟨n, hw⟩ := hw
    exact tl_X12_readRope_223 C hr  n _ _ _ _ _ _ hw
  · replace hw := hw.2 hc
    refine r_aload_n C dX12_readRope_196 0 rfl ?_
    have hob := hw.1
    obtain ⟨rv1, hp, hw⟩ := hw.2
    refine r_getP C fl_RX12_50_11 hob hp (fun _ _ _ => rfl) dX12_readRope_197 ?_
    refine r_iload C dX12_readRope_200 4 rfl ?_
    refine r_aload_n C dX12_readRope_202 0 rfl ?_
    have hob := hw.1
    obtain ⟨rv2, hp, hw⟩ := hw.2
    refine r_getP C fl_RX12_37_11 hob hp (fun _ _ _ => rfl) dX12_readRope_203 ?_
    refine r_sipush (v := 225) C dX12_readRope_206 (by decide) ?_
    refine r_iload C dX12_readRope_209 4 rfl ?_
    refine r_iadd C dX12_readRope_211 ?_
    refine r_iaload C hw.1 hw.2.1 dX12_readRope_212 ?_
    replace hw := hw.2.2
    refine r_iastore C hw.1 hw.2.1 dX12_readRope_213 ?_
    replace hw := hw.2.2
    refine r_toph fun hv3 ehv3 => ?_
    replace hw := hw hv3 ehv3
    obtain ⟨iv4, eiv4⟩ : ∃ q : Int32, q = xl5 + 1 := ⟨_, rfl⟩
    replace hw := hw iv4 eiv4
    refine r_iinc C dX12_readRope_214 4 rfl (by rw [eiv4]; rfl) [(5, .int iv4), (0, .ref (G.1 + al0)), (1, .int xl1), (2, .int xl2), (3, .int xl3)] (by decide) rfl ?_
    refine r_goto C dX12_readRope_217 189 (by decide) ?_
    refine r_sub [1, 2, 3, 4, 0] rfl ?_
    exact hK189 _ _ _ _ _ _ hw
def wl_X12_readRope_189  (post : AH → Int32 → Prop) : Nat → AH → Nat → Int32 → Int32 → Int32 → Int32 → Prop
  | 0 => fun _ _ _ _ _ _ => False
  | n + 1 => fun h al0 xl1 xl2 xl3 xl5 => wb_X12_readRope_189  (wl_X12_readRope_189  post n) h al0 xl1 xl2 xl3 xl5 post
theorem tl_X12_readRope_189 {G : GG} {p : Program} {l : Launch} {e : Env} {R : Room} {s : State} {m : MethodId} {args : Array Value} {below : List Frame} {meth : Method} {c : Code} {n0 s0 : Nat} {post : AH → Int32 → Prop} (C : Cx G p R s m args meth c 8 cX12_readRope RX12 n0 s0 3 66) (hr : meth.sig.returnType = (some .boolean))   : ∀ (n : Nat) (h : AH) (al0 : Nat) (xl1 : Int32) (xl2 : Int32) (xl3 : Int32) (xl5 : Int32), wl_X12_readRope_189  post n h al0 xl1 xl2 xl3 xl5 → AW G p l e R s m args below meth c 8 (QM G (pI post) args s below n0 s0) 189 [(0, .ref (G.1 + al0)), (1, .int xl1), (2, .int xl2), (3, .int xl3), (5, .int xl5)] [] h := by
  intro n
  induction n with
  | zero => intro h al0 xl1 xl2 xl3 xl5 hw; exact hw.elim
  | succ n ih => intro h al0 xl1 xl2 xl3 xl5 hw; exact tb_X12_readRope_189 C hr  ih hw
def wb_X12_readRope_163 (K91 : AH → Nat → Int32 → Int32 → Int32 → Int32 → Int32 → Prop) (h : AH) (al0 : Nat) (xl1 : Int32) (xl2 : Int32) (xl3 : Int32) (xl5 : Int32) (xs0 : Int32) (post : AH → Int32 → Prop) : Prop := ∀ iv1 : Int32, iv1 = xl5 + 1 → (K91 h al0 xl1 xl2 xl3 xs0 iv1)
set_option maxRecDepth 100000 in
theorem tb_X12_readRope_163 {G : GG} {p : Program} {l : Launch} {e : Env} {R : Room} {s : State} {m : MethodId} {args : Array Value} {below : List Frame} {meth : Method} {c : Code} {n0 s0 : Nat} {post : AH → Int32 → Prop} (C : Cx G p R s m args meth c 8 cX12_readRope RX12 n0 s0 3 66) (hr : meth.sig.returnType = (some .boolean)) {K91 : AH → Nat → Int32 → Int32 → Int32 → Int32 → Int32 → Prop} (hK91 : ∀ (h : AH) (al0 : Nat) (xl1 : Int32) (xl2 : Int32) (xl3 : Int32) (xl4 : Int32) (xl5 : Int32), K91 h al0 xl1 xl2 xl3 xl4 xl5 → AW G p l e R s m args below meth c 8 (QM G (pI post) args s below n0 s0) 91 [(0, .ref (G.1 + al0)), (1, .int xl1), (2, .int xl2), (3, .int xl3), (4, .int xl4), (5, .int xl5)] [] h) {h : AH} {al0 : Nat} {xl1 : Int32} {xl2 : Int32} {xl3 : Int32} {xl5 : Int32} {xs0 : Int32} (hw : wb_X12_readRope_163 K91 h al0 xl1 xl2 xl3 xl5 xs0 post) : AW G p l e R s m args below meth c 8 (QM G (pI post) args s below n0 s0) 163 [(0, .ref (G.1 + al0)), (1, .int xl1), (2, .int xl2), (3, .int xl3), (5, .int xl5)] [.int xs0] h := by
  unfold wb_X12_readRope_163 at hw
  refine r_istore C dX12_readRope_163 [(4, .int xs0), (0, .ref (G.1 + al0)), (1, .int xl1), (2, .int xl2), (3, .int xl3), (5, .int xl5)] (by decide) rfl ?_
  obtain ⟨iv1, eiv1⟩ : ∃ q : Int32, q = xl5 + 1 := ⟨_, rfl⟩
  replace hw := hw iv1 eiv1
  refine r_iinc C dX12_readRope_165 5 rfl (by rw [eiv1]; rfl) [(5, .int iv1), (4, .int xs0), (0, .ref (G.1 + al0)), (1, .int xl1), (2, .int xl2), (3, .int xl3)] (by decide) rfl ?_
  refine r_goto C dX12_readRope_168 91 (by decide) ?_
  refine r_sub [2, 3, 4, 5, 1, 0] rfl ?_
  exact hK91 _ _ _ _ _ _ _ hw
def wb_X12_readRope_162 (K91 : AH → Nat → Int32 → Int32 → Int32 → Int32 → Int32 → Prop) (h : AH) (al0 : Nat) (xl1 : Int32) (xl2 : Int32) (xl3 : Int32) (xl5 : Int32)  (post : AH → Int32 → Prop) : Prop := wb_X12_readRope_163 K91 h al0 xl1 xl2 xl3 xl5 0 post
set_option maxRecDepth 100000 in
theorem tb_X12_readRope_162 {G : GG} {p : Program} {l : Launch} {e : Env} {R : Room} {s : State} {m : MethodId} {args : Array Value} {below : List Frame} {meth : Method} {c : Code} {n0 s0 : Nat} {post : AH → Int32 → Prop} (C : Cx G p R s m args meth c 8 cX12_readRope RX12 n0 s0 3 66) (hr : meth.sig.returnType = (some .boolean)) {K91 : AH → Nat → Int32 → Int32 → Int32 → Int32 → Int32 → Prop} (hK91 : ∀ (h : AH) (al0 : Nat) (xl1 : Int32) (xl2 : Int32) (xl3 : Int32) (xl4 : Int32) (xl5 : Int32), K91 h al0 xl1 xl2 xl3 xl4 xl5 → AW G p l e R s m args below meth c 8 (QM G (pI post) args s below n0 s0) 91 [(0, .ref (G.1 + al0)), (1, .int xl1), (2, .int xl2), (3, .int xl3), (4, .int xl4), (5, .int xl5)] [] h) {h : AH} {al0 : Nat} {xl1 : Int32} {xl2 : Int32} {xl3 : Int32} {xl5 : Int32}  (hw : wb_X12_readRope_162 K91 h al0 xl1 xl2 xl3 xl5 post) : AW G p l e R s m args below meth c 8 (QM G (pI post) args s below n0 s0) 162 [(0, .ref (G.1 + al0)), (1, .int xl1), (2, .int xl2), (3, .int xl3), (5, .int xl5)] [] h := by
  unfold wb_X12_readRope_162 at hw
  refine r_iconst (v := 0) C dX12_readRope_162 (by decide) ?_
  refine r_sub [0, 1, 2, 3, 4] rfl ?_
  exact tb_X12_readRope_163 C hr hK91 hw
def wb_X12_readRope_158 (K91 : AH → Nat → Int32 → Int32 → Int32 → Int32 → Int32 → Prop) (h : AH) (al0 : Nat) (xl1 : Int32) (xl2 : Int32) (xl3 : Int32) (xl5 : Int32)  (post : AH → Int32 → Prop) : Prop := wb_X12_readRope_163 K91 h al0 xl1 xl2 xl3 xl5 1 post
set_option maxRecDepth 100000 in
theorem tb_X12_readRope_158 {G : GG} {p : Program} {l : Launch} {e : Env} {R : Room} {s : State} {m : MethodId} {args : Array Value} {below : List Frame} {meth : Method} {c : Code} {n0 s0 : Nat} {post : AH → Int32 → Prop} (C : Cx G p R s m args meth c 8 cX12_readRope RX12 n0 s0 3 66) (hr : meth.sig.returnType = (some .boolean)) {K91 : AH → Nat → Int32 → Int32 → Int32 → Int32 → Int32 → Prop} (hK91 : ∀ (h : AH) (al0 : Nat) (xl1 : Int32) (xl2 : Int32) (xl3 : Int32) (xl4 : Int32) (xl5 : Int32), K91 h al0 xl1 xl2 xl3 xl4 xl5 → AW G p l e R s m args below meth c 8 (QM G (pI post) args s below n0 s0) 91 [(0, .ref (G.1 + al0)), (1, .int xl1), (2, .int xl2), (3, .int xl3), (4, .int xl4), (5, .int xl5)] [] h) {h : AH} {al0 : Nat} {xl1 : Int32} {xl2 : Int32} {xl3 : Int32} {xl5 : Int32}  (hw : wb_X12_readRope_158 K91 h al0 xl1 xl2 xl3 xl5 post) : AW G p l e R s m args below meth c 8 (QM G (pI post) args s below n0 s0) 158 [(0, .ref (G.1 + al0)), (1, .int xl1), (2, .int xl2), (3, .int xl3), (5, .int xl5)] [] h := by
  unfold wb_X12_readRope_158 at hw
  refine r_iconst (v := 1) C dX12_readRope_158 (by decide) ?_
  refine r_goto C dX12_readRope_159 163 (by decide) ?_
  refine r_sub [0, 1, 2, 3, 4] rfl ?_
  exact tb_X12_readRope_163 C hr hK91 hw
def wb_X12_readRope_146 (K91 : AH → Nat → Int32 → Int32 → Int32 → Int32 → Int32 → Prop) (h : AH) (al0 : Nat) (xl1 : Int32) (xl2 : Int32) (xl3 : Int32) (xl5 : Int32) (xl6 : Int32) (xl7 : Int32)  (post : AH → Int32 → Prop) : Prop := (¬ xl6 = xl3 → (wb_X12_readRope_158 K91 h al0 xl1 xl2 xl3 xl5 post)) ∧ (xl6 = xl3 → ((xl7 = xl2 → (wb_X12_readRope_162 K91 h al0 xl1 xl2 xl3 xl5 post)) ∧ (¬ xl7 = xl2 → (wb_X12_readRope_158 K91 h al0 xl1 xl2 xl3 xl5 post))))
set_option maxRecDepth 100000 in
theorem tb_X12_readRope_146 {G : GG} {p : Program} {l : Launch} {e : Env} {R : Room} {s : State} {m : MethodId} {args : Array Value} {below : List Frame} {meth : Method} {c : Code} {n0 s0 : Nat} {post : AH → Int32 → Prop} (C : Cx G p R s m args meth c 8 cX12_readRope RX12 n0 s0 3 66) (hr : meth.sig.returnType = (some .boolean)) {K91 : AH → Nat → Int32 → Int32 → Int32 → Int32 → Int32 → Prop} (hK91 : ∀ (h : AH) (al0 : Nat) (xl1 : Int32) (xl2 : Int32) (xl3 : Int32) (xl4 : Int32) (xl5 : Int32), K91 h al0 xl1 xl2 xl3 xl4 xl5 → AW G p l e R s m args below meth c 8 (QM G (pI post) args s below n0 s0) 91 [(0, .ref (G.1 + al0)), (1, .int xl1), (2, .int xl2), (3, .int xl3), (4, .int xl4), (5, .int xl5)] [] h) {h : AH} {al0 : Nat} {xl1 : Int32} {xl2 : Int32} {xl3 : Int32} {xl5 : Int32} {xl6 : Int32} {xl7 : Int32}  (hw : wb_X12_readRope_146 K91 h al0 xl1 xl2 xl3 xl5 xl6 xl7 post) : AW G p l e R s m args below meth c 8 (QM G (pI post) args s below n0 s0) 146 [(0, .ref (G.1 + al0)), (1, .int xl1), (2, .int xl2), (3, .int xl3), (5, .int xl5), (6, .int xl6), (7, .int xl7)] [] h := by
  unfold wb_X12_readRope_146 at hw
  refine r_iload C dX12_readRope_146 5 rfl ?_
  refine r_iload_n C dX12_readRope_148 3 rfl ?_
  refine r_icmp_ne C dX12_readRope_149 158 (by decide) (fun hc => ?_) (fun hc => ?_)
  · replace hw := hw.1 hc
    refine r_sub [0, 1, 2, 3, 4] rfl ?_
    exact tb_X12_readRope_158 C hr hK91 hw
  · replace hw := hw.2 hc
    refine r_iload C dX12_readRope_152 6 rfl ?_
    refine r_iload_n C dX12_readRope_154 2 rfl ?_
    refine r_icmp_eq C dX12_readRope_155 162 (by decide) (fun hc => ?_) (fun hc => ?_)
    · replace hw := hw.1 hc
      refine r_sub [0, 1, 2, 3, 4] rfl ?_
      exact tb_X12_readRope_162 C hr hK91 hw
    · replace hw := hw.2 hc
      refine r_sub [0, 1, 2, 3, 4] rfl ?_
      exact tb_X12_readRope_158 C hr hK91 hw
def wb_X12_readRope_91 (K91 : AH → Nat → Int32 → Int32 → Int32 → Int32 → Int32 → Prop) (h : AH) (al0 : Nat) (xl1 : Int32) (xl2 : Int32) (xl3 : Int32) (xl4 : Int32) (xl5 : Int32)  (post : AH → Int32 → Prop) : Prop := (xl1 ≤ xl5 → ((¬ xl4 = 0 → ((ob h al0 11) ∧ wp_X12_next h al0  (fun hv1  => ∃ n, wl_X12_readRope_189  post n hv1 al0 xl1 xl2 xl3 0))) ∧ (xl4 = 0 → ((ob h al0 11) ∧ wp_X12_bad h al0 3 (fun hv2 iv3 => (iv3 = 0 ∨ iv3 = 1) ∧ post hv2 iv3))))) ∧ (¬ xl1 ≤ xl5 → ((ob h al0 11) ∧ (∃ rv4, aP h al0 7 = some rv4 ∧ ((ob h rv4 13) ∧ ((vp_in ((135 : Int32) + ((4 : Int32) * xl5)) (aL h rv4)) ∧ (∀ iv5 : Int32, iv5 = aI h rv4 ((135 : Int32) + ((4 : Int32) * xl5)).toNatClampNeg → ((ob h al0 11) ∧ (∃ rv6, aP h al0 7 = some rv6 ∧ ((ob h rv6 13) ∧ ((vp_in (((135 : Int32) + ((4 : Int32) * xl5)) + (1 : Int32)) (aL h rv6)) ∧ (∀ iv7 : Int32, iv7 = aI h rv6 (((135 : Int32) + ((4 : Int32) * xl5)) + (1 : Int32)).toNatClampNeg → ((xl4 = 0 → (wb_X12_readRope_162 K91 h al0 xl1 xl2 xl3 xl5 post)) ∧ (¬ xl4 = 0 → ((¬ iv5 = xl2 → (wb_X12_readRope_146 K91 h al0 xl1 xl2 xl3 xl5 iv5 iv7 post)) ∧ (iv5 = xl2 → ((iv7 = xl3 → (wb_X12_readRope_162 K91 h al0 xl1 xl2 xl3 xl5 post)) ∧ (¬ iv7 = xl3 → (wb_X12_readRope_146 K91 h al0 xl1 xl2 xl3 xl5 iv5 iv7 post))))))))))))))))))
set_option maxRecDepth 100000 in
theorem tb_X12_readRope_91 {G : GG} {p : Program} {l : Launch} {e : Env} {R : Room} {s : State} {m : MethodId} {args : Array Value} {below : List Frame} {meth : Method} {c : Code} {n0 s0 : Nat} {post : AH → Int32 → Prop} (C : Cx G p R s m args meth c 8 cX12_readRope RX12 n0 s0 3 66) (hr : meth.sig.returnType = (some .boolean)) {K91 : AH → Nat → Int32 → Int32 → Int32 → Int32 → Int32 → Prop} (hK91 : ∀ (h : AH) (al0 : Nat) (xl1 : Int32) (xl2 : Int32) (xl3 : Int32) (xl4 : Int32) (xl5 : Int32), K91 h al0 xl1 xl2 xl3 xl4 xl5 → AW G p l e R s m args below meth c 8 (QM G (pI post) args s below n0 s0) 91 [(0, .ref (G.1 + al0)), (1, .int xl1), (2, .int xl2), (3, .int xl3), (4, .int xl4), (5, .int xl5)] [] h) {h : AH} {al0 : Nat} {xl1 : Int32} {xl2 : Int32} {xl3 : Int32} {xl4 : Int32} {xl5 : Int32}  (hw : wb_X12_readRope_91 K91 h al0 xl1 xl2 xl3 xl4 xl5 post) : AW G p l e R s m args below meth c 8 (QM G (pI post) args s below n0 s0) 91 [(0, .ref (G.1 + al0)), (1, .int xl1), (2, .int xl2), (3, .int xl3), (4, .int xl4), (5, .int xl5)] [] h := by
  unfold wb_X12_readRope_91 at hw
  refine r_iload C dX12_readRope_91 5 rfl ?_
  refine r_iload_n C dX12_readRope_93 1 rfl ?_
  refine r_icmp_ge C dX12_readRope_94 171 (by decide) (fun hc => ?_) (fun hc => ?_)
  · replace hw := hw.1 hc
    refine r_iload C dX12_readRope_171 4 rfl ?_
    refine r_if_ne C dX12_readRope_173 182 (by decide) (fun hc => ?_) (fun hc => ?_)
    · replace hw := hw.1 hc
      refine r_aload_n C dX12_readRope_182 0 rfl ?_
      have hob := hw.1
      replace hw := hw.2
      refine r_callV C (As := []) (rest := []) (c_X12_next G h al0  _ hw) yl_X12_next (gm7 (List.mem_of_getElem? (i := 151) rfl) rfl) (gm7 (List.mem_of_getElem? (i := 153) rfl) rfl) (ci := 11) rfl (by decide) (gsel (List.mem_of_getElem? (i := 41) rfl)) hob (by decide) rfl (Nat.le_of_ble_eq_true rfl) dX12_readRope_183 rfl (kV fun hv1  hw => ?_)
      refine r_iconst (v := 0) C dX12_readRope_186 (by decide) ?_
      refine r_istore C dX12_readRope_187 [(5, .int 0), (0, .ref (G.1 + al0)), (1, .int xl1), (2, .int xl2), (3, .int xl3), (4, .int xl4)] (by decide) rfl ?_
      refine r_sub [1, 2, 3, 4, 0] rfl ?_
      obtain ⟨n, hw⟩ := hw
      exact tl_X12_readRope_189 C hr  n _ _ _ _ _ _ hw
    · replace hw := hw.2 hc
      refine r_aload_n C dX12_readRope_176 0 rfl ?_
      refine r_iconst (v := 3) C dX12_readRope_177 (by decide) ?_
      have hob := hw.1
      replace hw := hw.2
      refine r_callV C (As := [.int 3]) (rest := []) (c_X12_bad G h al0 3 _ hw) yl_X12_bad (gm7 (List.mem_of_getElem? (i := 177) rfl) rfl) (gm7 (List.mem_of_getElem? (i := 179) rfl) rfl) (ci := 11) rfl (by decide) (gsel (List.mem_of_getElem? (i := 46) rfl)) hob (by decide) rfl (Nat.le_of_ble_eq_true rfl) dX12_readRope_178 rfl (kI fun hv2 iv3 hw => ?_)
      exact r_zret C hr dX12_readRope_181 hw.1 hw.2
  · replace hw := hw.2 hc
    refine r_aload_n C dX12_readRope_97 0 rfl ?_
    have hob := hw.1
    obtain ⟨rv4, hp, hw⟩ := hw.2
    refine r_getP C fl_RX12_37_11 hob hp (fun _ _ _ => rfl) dX12_readRope_98 ?_
    refine r_sipush (v := 135) C dX12_readRope_101 (by decide) ?_
    refine r_iconst (v := 4) C dX12_readRope_104 (by decide) ?_
    refine r_iload C dX12_readRope_105 5 rfl ?_
    refine r_imul C dX12_readRope_107 ?_
    refine r_iadd C dX12_readRope_108 ?_
    refine r_iaload C hw.1 hw.2.1 dX12_readRope_109 ?_
    replace hw := hw.2.2
    refine r_topi fun iv5 eiv5 => ?_
    replace hw := hw iv5 eiv5
    refine r_istore C dX12_readRope_110 [(6, .int iv5), (0, .ref (G.1 + al0)), (1, .int xl1), (2, .int xl2), (3, .int xl3), (4, .int xl4), (5, .int xl5)] (by decide) rfl ?_
    refine r_aload_n C dX12_readRope_112 1 rfl ?_
    have hob := hw.1
    obtain ⟨rv6, hp, hw⟩ := hw.2
    refine r_getP C fl_RX12_37_11 hob hp (fun _ _ _ => rfl) dX12_readRope_113 ?_
    refine r_sipush (v := 135) C dX12_readRope_116 (by decide) ?_
    refine r_iconst (v := 4) C dX12_readRope_119 (by decide) ?_
    refine r_iload C dX12_readRope_120 6 rfl ?_
    refine r_imul C dX12_readRope_122 ?_
    refine r_iadd C dX12_readRope_123 ?_
    refine r_iconst (v := 1) C dX12_readRope_124 (by decide) ?_
    refine r_iadd C dX12_readRope_125 ?_
    refine r_iaload C hw.1 hw.2.1 dX12_readRope_126 ?_
    replace hw := hw.2.2
    refine r_topi fun iv7 eiv7 => ?_
    replace hw := hw iv7 eiv7
    refine r_istore C dX12_readRope_127 [(7, .int iv7), (6, .int iv5), (0, .ref (G.1 + al0)), (1, .int xl1), (2, .int xl2), (3, .int xl3), (4, .int xl4), (5, .int xl5)] (by decide) rfl ?_
    refine r_iload C dX12_readRope_129 6 rfl ?_
    refine r_if_eq C dX12_readRope_131 162 (by decide) (fun hc => ?_) (fun hc => ?_)
    · replace hw := hw.1 hc
      refine r_sub [2, 3, 4, 5, 7] rfl ?_
      exact tb_X12_readRope_162 C hr hK91 hw
    · replace hw := hw.2 hc
      refine r_iload C dX12_readRope_134 1 rfl ?_
      refine r_iload_n C dX12_readRope_136 4 rfl ?_
      refine r_icmp_ne C dX12_readRope_137 146 (by decide) (fun hc => ?_) (fun hc => ?_)
      · replace hw := hw.1 hc
        refine r_sub [2, 3, 4, 5, 7, 1, 0] rfl ?_
        exact tb_X12_readRope_146 C hr hK91 hw
      · replace hw := hw.2 hc
        refine r_iload C dX12_readRope_140 0 rfl ?_
        refine r_iload_n C dX12_readRope_142 5 rfl ?_
        refine r_icmp_eq C dX12_readRope_143 162 (by decide) (fun hc => ?_) (fun hc => ?_)
        · replace hw := hw.1 hc
          refine r_sub [2, 3, 4, 5, 7] rfl ?_
          exact tb_X12_readRope_162 C hr hK91 hw
        · replace hw := hw.2 hc
          refine r_sub [2, 3, 4, 5, 7, 1, 0] rfl ?_
          exact tb_X12_readRope_146 C hr hK91 hw
def wl_X12_readRope_91  (post : AH → Int32 → Prop) : Nat → AH → Nat → Int32 → Int32 → Int32 → Int32 → Int32 → Prop
  | 0 => fun _ _ _ _ _ _ _ => False
  | n + 1 => fun h al0 xl1 xl2 xl3 xl4 xl5 => wb_X12_readRope_91  (wl_X12_readRope_91  post n) h al0 xl1 xl2 xl3 xl4 xl5 post
theorem tl_X12_readRope_91 {G : GG} {p : Program} {l : Launch} {e : Env} {R : Room} {s : State} {m : MethodId} {args : Array Value} {below : List Frame} {meth : Method} {c : Code} {n0 s0 : Nat} {post : AH → Int32 → Prop} (C : Cx G p R s m args meth c 8 cX12_readRope RX12 n0 s0 3 66) (hr : meth.sig.returnType = (some .boolean))   : ∀ (n : Nat) (h : AH) (al0 : Nat) (xl1 : Int32) (xl2 : Int32) (xl3 : Int32) (xl4 : Int32) (xl5 : Int32), wl_X12_readRope_91  post n h al0 xl1 xl2 xl3 xl4 xl5 → AW G p l e R s m args below meth c 8 (QM G (pI post) args s below n0 s0) 91 [(0, .ref (G.1 + al0)), (1, .int xl1), (2, .int xl2), (3, .int xl3), (4, .int xl4), (5, .int xl5)] [] h := by
  intro n
  induction n with
  | zero => intro h al0 xl1 xl2 xl3 xl4 xl5 hw; exact hw.elim
  | succ n ih => intro h al0 xl1 xl2 xl3 xl4 xl5 hw; exact tb_X12_readRope_91 C hr  ih hw
def wb_X12_readRope_86  (h : AH) (al0 : Nat) (xl1 : Int32) (xl2 : Int32) (xl3 : Int32) (xs0 : Int32) (post : AH → Int32 → Prop) : Prop := ∃ n, wl_X12_readRope_91  post n h al0 xl1 xl2 xl3 xs0 0
set_option maxRecDepth 100000 in
theorem tb_X12_readRope_86 {G : GG} {p : Program} {l : Launch} {e : Env} {R : Room} {s : State} {m : MethodId} {args : Array Value} {below : List Frame} {meth : Method} {c : Code} {n0 s0 : Nat} {post : AH → Int32 → Prop} (C : Cx G p R s m args meth c 8 cX12_readRope RX12 n0 s0 3 66) (hr : meth.sig.returnType = (some .boolean))   {h : AH} {al0 : Nat} {xl1 : Int32} {xl2 : Int32} {xl3 : Int32} {xs0 : Int32} (hw : wb_X12_readRope_86  h al0 xl1 xl2 xl3 xs0 post) : AW G p l e R s m args below meth c 8 (QM G (pI post) args s below n0 s0) 86 [(0, .ref (G.1 + al0)), (1, .int xl1), (2, .int xl2), (3, .int xl3)] [.int xs0] h := by
  unfold wb_X12_readRope_86 at hw
  refine r_istore C dX12_readRope_86 [(4, .int xs0), (0, .ref (G.1 + al0)), (1, .int xl1), (2, .int xl2), (3, .int xl3)] (by decide) rfl ?_
  refine r_iconst (v := 0) C dX12_readRope_88 (by decide) ?_
  refine r_istore C dX12_readRope_89 [(5, .int 0), (4, .int xs0), (0, .ref (G.1 + al0)), (1, .int xl1), (2, .int xl2), (3, .int xl3)] (by decide) rfl ?_
  refine r_sub [2, 3, 4, 5, 1, 0] rfl ?_
  obtain ⟨n, hw⟩ := hw
  exact tl_X12_readRope_91 C hr  n _ _ _ _ _ _ _ hw
def wb_X12_readRope_85  (h : AH) (al0 : Nat) (xl1 : Int32) (xl2 : Int32) (xl3 : Int32)  (post : AH → Int32 → Prop) : Prop := wb_X12_readRope_86  h al0 xl1 xl2 xl3 0 post
set_option maxRecDepth 100000 in
theorem tb_X12_readRope_85 {G : GG} {p : Program} {l : Launch} {e : Env} {R : Room} {s : State} {m : MethodId} {args : Array Value} {below : List Frame} {meth : Method} {c : Code} {n0 s0 : Nat} {post : AH → Int32 → Prop} (C : Cx G p R s m args meth c 8 cX12_readRope RX12 n0 s0 3 66) (hr : meth.sig.returnType = (some .boolean))   {h : AH} {al0 : Nat} {xl1 : Int32} {xl2 : Int32} {xl3 : Int32}  (hw : wb_X12_readRope_85  h al0 xl1 xl2 xl3 post) : AW G p l e R s m args below meth c 8 (QM G (pI post) args s below n0 s0) 85 [(0, .ref (G.1 + al0)), (1, .int xl1), (2, .int xl2), (3, .int xl3)] [] h := by
  unfold wb_X12_readRope_85 at hw
  refine r_iconst (v := 0) C dX12_readRope_85 (by decide) ?_
  refine r_sub [0, 1, 2, 3] rfl ?_
  exact tb_X12_readRope_86 C hr  hw
def wp_X12_readRope (h : AH) (a0 : Nat) (post : AH → Int32 → Prop) : Prop := (ob h a0 11) ∧ (∃ rv1, aP h a0 7 = some rv1 ∧ ((ob h rv1 13) ∧ ((vp_in 4 (aL h rv1)) ∧ (∀ iv2 : Int32, iv2 = aI h rv1 (4 : Int32).toNatClampNeg → ((¬ iv2 = 8 → ((ob h a0 11) ∧ wp_X12_next h a0  (fun hv3  => (ob hv3 a0 11) ∧ (∃ rv4, aP hv3 a0 7 = some rv4 ∧ ((ob hv3 rv4 13) ∧ ((vp_in 2 (aL hv3 rv4)) ∧ ((ob hv3 a0 11) ∧ wp_X12_takesRaft hv3 a0 8 (aI hv3 rv4 (2 : Int32).toNatClampNeg) (-1) (fun hv5 iv6 => (¬ iv6 = 0 → ((ob hv5 a0 11) ∧ (∀ iv7 : Int32, iv7 = aI hv5 a0 18 → ((ob hv5 a0 11) ∧ wp_X12_isName hv5 a0  (fun hv8 iv9 => (¬ iv9 = 0 → ((ob hv8 a0 11) ∧ (∃ rv10, aP hv8 a0 7 = some rv10 ∧ ((ob hv8 rv10 13) ∧ ((vp_in 2 (aL hv8 rv10)) ∧ ((ob hv8 a0 11) ∧ wp_X12_find hv8 a0 8 (aI hv8 rv10 (2 : Int32).toNatClampNeg) (fun hv11 iv12 => (iv12 < 0 → (wb_X12_readRope_85  hv11 a0 iv2 iv7 iv12 post)) ∧ (¬ iv12 < 0 → ((iv12 = iv7 → (wb_X12_readRope_85  hv11 a0 iv2 iv7 iv12 post)) ∧ (¬ iv12 = iv7 → (wb_X12_readRope_86  hv11 a0 iv2 iv7 iv12 1 post))))))))))) ∧ (iv9 = 0 → ((ob hv8 a0 11) ∧ wp_X12_bad hv8 a0 1 (fun hv13 iv14 => (iv14 = 0 ∨ iv14 = 1) ∧ post hv13 iv14)))))))) ∧ (iv6 = 0 → (((0 : Int32) = 0 ∨ (0 : Int32) = 1) ∧ post hv5 0)))))))))) ∧ (iv2 = 8 → ((ob h a0 11) ∧ wp_X12_bad h a0 4 (fun hv15 iv16 => (iv16 = 0 ∨ iv16 = 1) ∧ post hv15 iv16))))))))
set_option maxRecDepth 100000 in
theorem c_X12_readRope (G : GG) (h : AH) (a0 : Nat) (post : AH → Int32 → Prop) (hw : wp_X12_readRope h a0 post) : MC G yX12_readRope cX12_readRope 8 (some .boolean) 3 66 h [.ref (G.1 + a0)] (pI post) := by
  refine MC.of (lv := [(0, .ref (G.1 + a0))]) (by decide) (Nat.le_of_ble_eq_true rfl) rfl fun p l e R s m args below meth c C hr hnm => ?_
  unfold wp_X12_readRope at hw
  refine r_aload_n C dX12_readRope_0 0 rfl ?_
  have hob := hw.1
  obtain ⟨rv1, hp, hw⟩ := hw.2
  refine r_getP C fl_RX12_37_11 hob hp (fun _ _ _ => rfl) dX12_readRope_1 ?_
  refine r_iconst (v := 4) C dX12_readRope_4 (by decide) ?_
  refine r_iaload C hw.1 hw.2.1 dX12_readRope_5 ?_
  replace hw := hw.2.2
  refine r_topi fun iv2 eiv2 => ?_
  replace hw := hw iv2 eiv2
  refine r_istore_n C dX12_readRope_6 [(1, .int iv2), (0, .ref (G.1 + a0))] (by decide) rfl ?_
  refine r_iload_n C dX12_readRope_7 0 rfl ?_
  refine r_bipush (v := 8) C dX12_readRope_8 (by decide) ?_
  refine r_icmp_ne C dX12_readRope_10 19 (by decide) (fun hc => ?_) (fun hc => ?_)
  · replace hw := hw.1 hc
    refine r_aload_n C dX12_readRope_19 1 rfl ?_
    have hob := hw.1
    replace hw := hw.2
    refine r_callV C (As := []) (rest := []) (c_X12_next G h a0  _ hw) yl_X12_next (gm7 (List.mem_of_getElem? (i := 151) rfl) rfl) (gm7 (List.mem_of_getElem? (i := 153) rfl) rfl) (ci := 11) rfl (by decide) (gsel (List.mem_of_getElem? (i := 41) rfl)) hob (by decide) rfl (Nat.le_of_ble_eq_true rfl) dX12_readRope_20 rfl (kV fun hv3  hw => ?_)
    refine r_aload_n C dX12_readRope_23 1 rfl ?_
    refine r_bipush (v := 8) C dX12_readRope_24 (by decide) ?_
    refine r_aload_n C dX12_readRope_26 1 rfl ?_
    have hob := hw.1
    obtain ⟨rv4, hp, hw⟩ := hw.2
    refine r_getP C fl_RX12_37_11 hob hp (fun _ _ _ => rfl) dX12_readRope_27 ?_
    refine r_iconst (v := 2) C dX12_readRope_30 (by decide) ?_
    refine r_iaload C hw.1 hw.2.1 dX12_readRope_31 ?_
    replace hw := hw.2.2
    refine r_iconst (v := (-1)) C dX12_readRope_32 (by decide) ?_
    have hob := hw.1
    replace hw := hw.2
    refine r_callV C (As := [.int 8, .int (aI hv3 rv4 (2 : Int32).toNatClampNeg), .int (-1)]) (rest := []) (c_X12_takesRaft G hv3 a0 8 (aI hv3 rv4 (2 : Int32).toNatClampNeg) (-1) _ hw) yl_X12_takesRaft (gm7 (List.mem_of_getElem? (i := 219) rfl) rfl) (gm7 (List.mem_of_getElem? (i := 221) rfl) rfl) (ci := 11) rfl (by decide) (gsel (List.mem_of_getElem? (i := 55) rfl)) hob (by decide) rfl (Nat.le_of_ble_eq_true rfl) dX12_readRope_33 rfl (kI fun hv5 iv6 hw => ?_)
    refine r_if_ne C dX12_readRope_36 41 (by decide) (fun hc => ?_) (fun hc => ?_)
    · replace hw := hw.1 hc
      refine r_aload_n C dX12_readRope_41 1 rfl ?_
      refine r_getI C fl_RX12_200_11 hw.1 (fun _ _ _ => rfl) dX12_readRope_42 ?_
      replace hw := hw.2
      refine r_topi fun iv7 eiv7 => ?_
      replace hw := hw iv7 eiv7
      refine r_istore_n C dX12_readRope_45 [(2, .int iv7), (1, .int iv2), (0, .ref (G.1 + a0))] (by decide) rfl ?_
      refine r_aload_n C dX12_readRope_46 2 rfl ?_
      have hob := hw.1
      replace hw := hw.2
      refine r_callV C (As := []) (rest := []) (c_X12_isName G hv5 a0  _ hw) yl_X12_isName (gm7 (List.mem_of_getElem? (i := 203) rfl) rfl) (gm7 (List.mem_of_getElem? (i := 205) rfl) rfl) (ci := 11) rfl (by decide) (gsel (List.mem_of_getElem? (i := 51) rfl)) hob (by decide) rfl (Nat.le_of_ble_eq_true rfl) dX12_readRope_47 rfl (kI fun hv8 iv9 hw => ?_)
      refine r_if_ne C dX12_readRope_50 59 (by decide) (fun hc => ?_) (fun hc => ?_)
      · replace hw := hw.1 hc
        refine r_aload_n C dX12_readRope_59 2 rfl ?_
        refine r_bipush (v := 8) C dX12_readRope_60 (by decide) ?_
        refine r_aload_n C dX12_readRope_62 2 rfl ?_
        have hob := hw.1
        obtain ⟨rv10, hp, hw⟩ := hw.2
        refine r_getP C fl_RX12_37_11 hob hp (fun _ _ _ => rfl) dX12_readRope_63 ?_
        refine r_iconst (v := 2) C dX12_readRope_66 (by decide) ?_
        refine r_iaload C hw.1 hw.2.1 dX12_readRope_67 ?_
        replace hw := hw.2.2
        have hob := hw.1
        replace hw := hw.2
        refine r_callV C (As := [.int 8, .int (aI hv8 rv10 (2 : Int32).toNatClampNeg)]) (rest := []) (c_X12_find G hv8 a0 8 (aI hv8 rv10 (2 : Int32).toNatClampNeg) _ hw) yl_X12_find (gm7 (List.mem_of_getElem? (i := 207) rfl) rfl) (gm7 (List.mem_of_getElem? (i := 209) rfl) rfl) (ci := 11) rfl (by decide) (gsel (List.mem_of_getElem? (i := 52) rfl)) hob (by decide) rfl (Nat.le_of_ble_eq_true rfl) dX12_readRope_68 rfl (kI fun hv11 iv12 hw => ?_)
        refine r_istore_n C dX12_readRope_71 [(3, .int iv12), (2, .int iv7), (1, .int iv2), (0, .ref (G.1 + a0))] (by decide) rfl ?_
        refine r_iload_n C dX12_readRope_72 0 rfl ?_
        refine r_if_lt C dX12_readRope_73 85 (by decide) (fun hc => ?_) (fun hc => ?_)
        · replace hw := hw.1 hc
          refine r_sub [3, 2, 1, 0] rfl ?_
          exact tb_X12_readRope_85 C hr  hw
        · replace hw := hw.2 hc
          refine r_iload_n C dX12_readRope_76 0 rfl ?_
          refine r_iload_n C dX12_readRope_77 1 rfl ?_
          refine r_icmp_eq C dX12_readRope_78 85 (by decide) (fun hc => ?_) (fun hc => ?_)
          · replace hw := hw.1 hc
            refine r_sub [3, 2, 1, 0] rfl ?_
            exact tb_X12_readRope_85 C hr  hw
          · replace hw := hw.2 hc
            refine r_iconst (v := 1) C dX12_readRope_81 (by decide) ?_
            refine r_goto C dX12_readRope_82 86 (by decide) ?_
            refine r_sub [3, 2, 1, 0] rfl ?_
            exact tb_X12_readRope_86 C hr  hw
      · replace hw := hw.2 hc
        refine r_aload_n C dX12_readRope_53 2 rfl ?_
        refine r_iconst (v := 1) C dX12_readRope_54 (by decide) ?_
        have hob := hw.1
        replace hw := hw.2
        refine r_callV C (As := [.int 1]) (rest := []) (c_X12_bad G hv8 a0 1 _ hw) yl_X12_bad (gm7 (List.mem_of_getElem? (i := 177) rfl) rfl) (gm7 (List.mem_of_getElem? (i := 179) rfl) rfl) (ci := 11) rfl (by decide) (gsel (List.mem_of_getElem? (i := 46) rfl)) hob (by decide) rfl (Nat.le_of_ble_eq_true rfl) dX12_readRope_55 rfl (kI fun hv13 iv14 hw => ?_)
        exact r_zret C hr dX12_readRope_58 hw.1 hw.2
    · replace hw := hw.2 hc
      refine r_iconst (v := 0) C dX12_readRope_39 (by decide) ?_
      exact r_zret C hr dX12_readRope_40 hw.1 hw.2
  · replace hw := hw.2 hc
    refine r_aload_n C dX12_readRope_13 1 rfl ?_
    refine r_iconst (v := 4) C dX12_readRope_14 (by decide) ?_
    have hob := hw.1
    replace hw := hw.2
    refine r_callV C (As := [.int 4]) (rest := []) (c_X12_bad G h a0 4 _ hw) yl_X12_bad (gm7 (List.mem_of_getElem? (i := 177) rfl) rfl) (gm7 (List.mem_of_getElem? (i := 179) rfl) rfl) (ci := 11) rfl (by decide) (gsel (List.mem_of_getElem? (i := 46) rfl)) hob (by decide) rfl (Nat.le_of_ble_eq_true rfl) dX12_readRope_15 rfl (kI fun hv15 iv16 hw => ?_)
    exact r_zret C hr dX12_readRope_18 hw.1 hw.2
theorem dX12_readMoor_0 : decode cX12_readMoor 0 = .ok (.aload_n 0, 1) := by decide +kernel
theorem dX12_readMoor_1 : decode cX12_readMoor 1 = .ok (.invokevirtual 193, 3) := by decide +kernel
theorem dX12_readMoor_4 : decode cX12_readMoor 4 = .ok (.aload_n 0, 1) := by decide +kernel
theorem dX12_readMoor_5 : decode cX12_readMoor 5 = .ok (.invokevirtual 203, 3) := by decide +kernel
theorem dX12_readMoor_8 : decode cX12_readMoor 8 = .ok (.ifCond .ne 9, 3) := by decide +kernel
theorem dX12_readMoor_11 : decode cX12_readMoor 11 = .ok (.aload_n 0, 1) := by decide +kernel
theorem dX12_readMoor_12 : decode cX12_readMoor 12 = .ok (.iconst 1, 1) := by decide +kernel
theorem dX12_readMoor_13 : decode cX12_readMoor 13 = .ok (.invokevirtual 190, 3) := by decide +kernel
theorem dX12_readMoor_16 : decode cX12_readMoor 16 = .ok (.ireturn, 1) := by decide +kernel
theorem dX12_readMoor_17 : decode cX12_readMoor 17 = .ok (.aload_n 0, 1) := by decide +kernel
theorem dX12_readMoor_18 : decode cX12_readMoor 18 = .ok (.bipush 8, 2) := by decide +kernel
theorem dX12_readMoor_20 : decode cX12_readMoor 20 = .ok (.aload_n 0, 1) := by decide +kernel
theorem dX12_readMoor_21 : decode cX12_readMoor 21 = .ok (.getfield 37, 3) := by decide +kernel
theorem dX12_readMoor_24 : decode cX12_readMoor 24 = .ok (.iconst 2, 1) := by decide +kernel
theorem dX12_readMoor_25 : decode cX12_readMoor 25 = .ok (.iaload, 1) := by decide +kernel
theorem dX12_readMoor_26 : decode cX12_readMoor 26 = .ok (.invokevirtual 207, 3) := by decide +kernel
theorem dX12_readMoor_29 : decode cX12_readMoor 29 = .ok (.istore_n 1, 1) := by decide +kernel
theorem dX12_readMoor_30 : decode cX12_readMoor 30 = .ok (.iload_n 1, 1) := by decide +kernel
theorem dX12_readMoor_31 : decode cX12_readMoor 31 = .ok (.ifCond .lt 16, 3) := by decide +kernel
theorem dX12_readMoor_34 : decode cX12_readMoor 34 = .ok (.aload_n 0, 1) := by decide +kernel
theorem dX12_readMoor_35 : decode cX12_readMoor 35 = .ok (.getfield 37, 3) := by decide +kernel
theorem dX12_readMoor_38 : decode cX12_readMoor 38 = .ok (.sipush 167, 3) := by decide +kernel
theorem dX12_readMoor_41 : decode cX12_readMoor 41 = .ok (.iload_n 1, 1) := by decide +kernel
theorem dX12_readMoor_42 : decode cX12_readMoor 42 = .ok (.iadd, 1) := by decide +kernel
theorem dX12_readMoor_43 : decode cX12_readMoor 43 = .ok (.iaload, 1) := by decide +kernel
theorem dX12_readMoor_44 : decode cX12_readMoor 44 = .ok (.ifCond .le 9, 3) := by decide +kernel
theorem dX12_readMoor_47 : decode cX12_readMoor 47 = .ok (.aload_n 0, 1) := by decide +kernel
theorem dX12_readMoor_48 : decode cX12_readMoor 48 = .ok (.iconst 3, 1) := by decide +kernel
theorem dX12_readMoor_49 : decode cX12_readMoor 49 = .ok (.invokevirtual 190, 3) := by decide +kernel
theorem dX12_readMoor_52 : decode cX12_readMoor 52 = .ok (.ireturn, 1) := by decide +kernel
theorem dX12_readMoor_53 : decode cX12_readMoor 53 = .ok (.aload_n 0, 1) := by decide +kernel
theorem dX12_readMoor_54 : decode cX12_readMoor 54 = .ok (.invokevirtual 193, 3) := by decide +kernel
theorem dX12_readMoor_57 : decode cX12_readMoor 57 = .ok (.aload_n 0, 1) := by decide +kernel
theorem dX12_readMoor_58 : decode cX12_readMoor 58 = .ok (.iconst 1, 1) := by decide +kernel
theorem dX12_readMoor_59 : decode cX12_readMoor 59 = .ok (.bipush 99, 2) := by decide +kernel
theorem dX12_readMoor_61 : decode cX12_readMoor 61 = .ok (.invokevirtual 211, 3) := by decide +kernel
theorem dX12_readMoor_64 : decode cX12_readMoor 64 = .ok (.ifCond .ne 5, 3) := by decide +kernel
theorem dX12_readMoor_67 : decode cX12_readMoor 67 = .ok (.iconst 0, 1) := by decide +kernel
theorem dX12_readMoor_68 : decode cX12_readMoor 68 = .ok (.ireturn, 1) := by decide +kernel
theorem dX12_readMoor_69 : decode cX12_readMoor 69 = .ok (.aload_n 0, 1) := by decide +kernel
theorem dX12_readMoor_70 : decode cX12_readMoor 70 = .ok (.getfield 37, 3) := by decide +kernel
theorem dX12_readMoor_73 : decode cX12_readMoor 73 = .ok (.sipush 167, 3) := by decide +kernel
theorem dX12_readMoor_76 : decode cX12_readMoor 76 = .ok (.iload_n 1, 1) := by decide +kernel
theorem dX12_readMoor_77 : decode cX12_readMoor 77 = .ok (.iadd, 1) := by decide +kernel
theorem dX12_readMoor_78 : decode cX12_readMoor 78 = .ok (.aload_n 0, 1) := by decide +kernel
theorem dX12_readMoor_79 : decode cX12_readMoor 79 = .ok (.getfield 200, 3) := by decide +kernel
theorem dX12_readMoor_82 : decode cX12_readMoor 82 = .ok (.iastore, 1) := by decide +kernel
theorem dX12_readMoor_83 : decode cX12_readMoor 83 = .ok (.iconst 1, 1) := by decide +kernel
theorem dX12_readMoor_84 : decode cX12_readMoor 84 = .ok (.ireturn, 1) := by decide +kernel
def wb_X12_readMoor_47  (h : AH) (al0 : Nat)  (post : AH → Int32 → Prop) : Prop := (ob h al0 11) ∧ wp_X12_bad h al0 3 (fun hv1 iv2 => (iv2 = 0 ∨ iv2 = 1) ∧ post hv1 iv2)
set_option maxRecDepth 100000 in
theorem tb_X12_readMoor_47 {G : GG} {p : Program} {l : Launch} {e : Env} {R : Room} {s : State} {m : MethodId} {args : Array Value} {below : List Frame} {meth : Method} {c : Code} {n0 s0 : Nat} {post : AH → Int32 → Prop} (C : Cx G p R s m args meth c 2 cX12_readMoor RX12 n0 s0 3 65) (hr : meth.sig.returnType = (some .boolean))   {h : AH} {al0 : Nat}  (hw : wb_X12_readMoor_47  h al0 post) : AW G p l e R s m args below meth c 2 (QM G (pI post) args s below n0 s0) 47 [(0, .ref (G.1 + al0))] [] h := by
  unfold wb_X12_readMoor_47 at hw
  refine r_aload_n C dX12_readMoor_47 0 rfl ?_
  refine r_iconst (v := 3) C dX12_readMoor_48 (by decide) ?_
  have hob := hw.1
  replace hw := hw.2
  refine r_callV C (As := [.int 3]) (rest := []) (c_X12_bad G h al0 3 _ hw) yl_X12_bad (gm7 (List.mem_of_getElem? (i := 177) rfl) rfl) (gm7 (List.mem_of_getElem? (i := 179) rfl) rfl) (ci := 11) rfl (by decide) (gsel (List.mem_of_getElem? (i := 46) rfl)) hob (by decide) rfl (Nat.le_of_ble_eq_true rfl) dX12_readMoor_49 rfl (kI fun hv1 iv2 hw => ?_)
  exact r_zret C hr dX12_readMoor_52 hw.1 hw.2
def wp_X12_readMoor (h : AH) (a0 : Nat) (post : AH → Int32 → Prop) : Prop := (ob h a0 11) ∧ wp_X12_next h a0  (fun hv1  => (ob hv1 a0 11) ∧ wp_X12_isName hv1 a0  (fun hv2 iv3 => (¬ iv3 = 0 → ((ob hv2 a0 11) ∧ (∃ rv4, aP hv2 a0 7 = some rv4 ∧ ((ob hv2 rv4 13) ∧ ((vp_in 2 (aL hv2 rv4)) ∧ ((ob hv2 a0 11) ∧ wp_X12_find hv2 a0 8 (aI hv2 rv4 (2 : Int32).toNatClampNeg) (fun hv5 iv6 => (iv6 < 0 → (wb_X12_readMoor_47  hv5 a0 post)) ∧ (¬ iv6 < 0 → ((ob hv5 a0 11) ∧ (∃ rv7, aP hv5 a0 7 = some rv7 ∧ ((ob hv5 rv7 13) ∧ ((vp_in ((167 : Int32) + iv6) (aL hv5 rv7)) ∧ (((aI hv5 rv7 ((167 : Int32) + iv6).toNatClampNeg) ≤ 0 → ((ob hv5 a0 11) ∧ wp_X12_next hv5 a0  (fun hv8  => (ob hv8 a0 11) ∧ wp_X12_takes hv8 a0 1 99 (fun hv9 iv10 => (¬ iv10 = 0 → ((ob hv9 a0 11) ∧ (∃ rv11, aP hv9 a0 7 = some rv11 ∧ ((ob hv9 a0 11) ∧ ((ob hv9 rv11 13) ∧ ((vp_in ((167 : Int32) + iv6) (aL hv9 rv11)) ∧ (∀ hv12 : AH, hv12 = hI hv9 rv11 ((167 : Int32) + iv6).toNatClampNeg (aI hv9 a0 18) → (((1 : Int32) = 0 ∨ (1 : Int32) = 1) ∧ post hv12 1)))))))) ∧ (iv10 = 0 → (((0 : Int32) = 0 ∨ (0 : Int32) = 1) ∧ post hv9 0)))))) ∧ (¬ (aI hv5 rv7 ((167 : Int32) + iv6).toNatClampNeg) ≤ 0 → (wb_X12_readMoor_47  hv5 a0 post))))))))))))))) ∧ (iv3 = 0 → ((ob hv2 a0 11) ∧ wp_X12_bad hv2 a0 1 (fun hv13 iv14 => (iv14 = 0 ∨ iv14 = 1) ∧ post hv13 iv14)))))
set_option maxRecDepth 100000 in
theorem c_X12_readMoor (G : GG) (h : AH) (a0 : Nat) (post : AH → Int32 → Prop) (hw : wp_X12_readMoor h a0 post) : MC G yX12_readMoor cX12_readMoor 2 (some .boolean) 3 65 h [.ref (G.1 + a0)] (pI post) := by
  refine MC.of (lv := [(0, .ref (G.1 + a0))]) (by decide) (Nat.le_of_ble_eq_true rfl) rfl fun p l e R s m args below meth c C hr hnm => ?_
  unfold wp_X12_readMoor at hw
  refine r_aload_n C dX12_readMoor_0 0 rfl ?_
  have hob := hw.1
  replace hw := hw.2
  refine r_callV C (As := []) (rest := []) (c_X12_next G h a0  _ hw) yl_X12_next (gm7 (List.mem_of_getElem? (i := 151) rfl) rfl) (gm7 (List.mem_of_getElem? (i := 153) rfl) rfl) (ci := 11) rfl (by decide) (gsel (List.mem_of_getElem? (i := 41) rfl)) hob (by decide) rfl (Nat.le_of_ble_eq_true rfl) dX12_readMoor_1 rfl (kV fun hv1  hw => ?_)
  refine r_aload_n C dX12_readMoor_4 0 rfl ?_
  have hob := hw.1
  replace hw := hw.2
  refine r_callV C (As := []) (rest := []) (c_X12_isName G hv1 a0  _ hw) yl_X12_isName (gm7 (List.mem_of_getElem? (i := 203) rfl) rfl) (gm7 (List.mem_of_getElem? (i := 205) rfl) rfl) (ci := 11) rfl (by decide) (gsel (List.mem_of_getElem? (i := 51) rfl)) hob (by decide) rfl (Nat.le_of_ble_eq_true rfl) dX12_readMoor_5 rfl (kI fun hv2 iv3 hw => ?_)
  refine r_if_ne C dX12_readMoor_8 17 (by decide) (fun hc => ?_) (fun hc => ?_)
  · replace hw := hw.1 hc
    refine r_aload_n C dX12_readMoor_17 0 rfl ?_
    refine r_bipush (v := 8) C dX12_readMoor_18 (by decide) ?_
    refine r_aload_n C dX12_readMoor_20 0 rfl ?_
    have hob := hw.1
    obtain ⟨rv4, hp, hw⟩ := hw.2
    refine r_getP C fl_RX12_37_11 hob hp (fun _ _ _ => rfl) dX12_readMoor_21 ?_
    refine r_iconst (v := 2) C dX12_readMoor_24 (by decide) ?_
    refine r_iaload C hw.1 hw.2.1 dX12_readMoor_25 ?_
    replace hw := hw.2.2
    have hob := hw.1
    replace hw := hw.2
    refine r_callV C (As := [.int 8, .int (aI hv2 rv4 (2 : Int32).toNatClampNeg)]) (rest := []) (c_X12_find G hv2 a0 8 (aI hv2 rv4 (2 : Int32).toNatClampNeg) _ hw) yl_X12_find (gm7 (List.mem_of_getElem? (i := 207) rfl) rfl) (gm7 (List.mem_of_getElem? (i := 209) rfl) rfl) (ci := 11) rfl (by decide) (gsel (List.mem_of_getElem? (i := 52) rfl)) hob (by decide) rfl (Nat.le_of_ble_eq_true rfl) dX12_readMoor_26 rfl (kI fun hv5 iv6 hw => ?_)
    refine r_istore_n C dX12_readMoor_29 [(1, .int iv6), (0, .ref (G.1 + a0))] (by decide) rfl ?_
    refine r_iload_n C dX12_readMoor_30 0 rfl ?_
    refine r_if_lt C dX12_readMoor_31 47 (by decide) (fun hc => ?_) (fun hc => ?_)
    · replace hw := hw.1 hc
      refine r_sub [1] rfl ?_
      exact tb_X12_readMoor_47 C hr  hw
    · replace hw := hw.2 hc
      refine r_aload_n C dX12_readMoor_34 1 rfl ?_
      have hob := hw.1
      obtain ⟨rv7, hp, hw⟩ := hw.2
      refine r_getP C fl_RX12_37_11 hob hp (fun _ _ _ => rfl) dX12_readMoor_35 ?_
      refine r_sipush (v := 167) C dX12_readMoor_38 (by decide) ?_
      refine r_iload_n C dX12_readMoor_41 0 rfl ?_
      refine r_iadd C dX12_readMoor_42 ?_
      refine r_iaload C hw.1 hw.2.1 dX12_readMoor_43 ?_
      replace hw := hw.2.2
      refine r_if_le C dX12_readMoor_44 53 (by decide) (fun hc => ?_) (fun hc => ?_)
      · replace hw := hw.1 hc
        refine r_aload_n C dX12_readMoor_53 1 rfl ?_
        have hob := hw.1
        replace hw := hw.2
        refine r_callV C (As := []) (rest := []) (c_X12_next G hv5 a0  _ hw) yl_X12_next (gm7 (List.mem_of_getElem? (i := 151) rfl) rfl) (gm7 (List.mem_of_getElem? (i := 153) rfl) rfl) (ci := 11) rfl (by decide) (gsel (List.mem_of_getElem? (i := 41) rfl)) hob (by decide) rfl (Nat.le_of_ble_eq_true rfl) dX12_readMoor_54 rfl (kV fun hv8  hw => ?_)
        refine r_aload_n C dX12_readMoor_57 1 rfl ?_
        refine r_iconst (v := 1) C dX12_readMoor_58 (by decide) ?_
        refine r_bipush (v := 99) C dX12_readMoor_59 (by decide) ?_
        have hob := hw.1
        replace hw := hw.2
        refine r_callV C (As := [.int 1, .int 99]) (rest := []) (c_X12_takes G hv8 a0 1 99 _ hw) yl_X12_takes (gm7 (List.mem_of_getElem? (i := 195) rfl) rfl) (gm7 (List.mem_of_getElem? (i := 197) rfl) rfl) (ci := 11) rfl (by decide) (gsel (List.mem_of_getElem? (i := 49) rfl)) hob (by decide) rfl (Nat.le_of_ble_eq_true rfl) dX12_readMoor_61 rfl (kI fun hv9 iv10 hw => ?_)
        refine r_if_ne C dX12_readMoor_64 69 (by decide) (fun hc => ?_) (fun hc => ?_)
        · replace hw := hw.1 hc
          refine r_aload_n C dX12_readMoor_69 1 rfl ?_
          have hob := hw.1
          obtain ⟨rv11, hp, hw⟩ := hw.2
          refine r_getP C fl_RX12_37_11 hob hp (fun _ _ _ => rfl) dX12_readMoor_70 ?_
          refine r_sipush (v := 167) C dX12_readMoor_73 (by decide) ?_
          refine r_iload_n C dX12_readMoor_76 0 rfl ?_
          refine r_iadd C dX12_readMoor_77 ?_
          refine r_aload_n C dX12_readMoor_78 1 rfl ?_
          refine r_getI C fl_RX12_200_11 hw.1 (fun _ _ _ => rfl) dX12_readMoor_79 ?_
          replace hw := hw.2
          refine r_iastore C hw.1 hw.2.1 dX12_readMoor_82 ?_
          replace hw := hw.2.2
          refine r_toph fun hv12 ehv12 => ?_
          replace hw := hw hv12 ehv12
          refine r_iconst (v := 1) C dX12_readMoor_83 (by decide) ?_
          exact r_zret C hr dX12_readMoor_84 hw.1 hw.2
        · replace hw := hw.2 hc
          refine r_iconst (v := 0) C dX12_readMoor_67 (by decide) ?_
          exact r_zret C hr dX12_readMoor_68 hw.1 hw.2
      · replace hw := hw.2 hc
        refine r_sub [1] rfl ?_
        exact tb_X12_readMoor_47 C hr  hw
  · replace hw := hw.2 hc
    refine r_aload_n C dX12_readMoor_11 0 rfl ?_
    refine r_iconst (v := 1) C dX12_readMoor_12 (by decide) ?_
    have hob := hw.1
    replace hw := hw.2
    refine r_callV C (As := [.int 1]) (rest := []) (c_X12_bad G hv2 a0 1 _ hw) yl_X12_bad (gm7 (List.mem_of_getElem? (i := 177) rfl) rfl) (gm7 (List.mem_of_getElem? (i := 179) rfl) rfl) (ci := 11) rfl (by decide) (gsel (List.mem_of_getElem? (i := 46) rfl)) hob (by decide) rfl (Nat.le_of_ble_eq_true rfl) dX12_readMoor_13 rfl (kI fun hv13 iv14 hw => ?_)
    exact r_zret C hr dX12_readMoor_16 hw.1 hw.2
theorem dX12_readSquare_0 : decode cX12_readSquare 0 = .ok (.aload_n 0, 1) := by decide +kernel
theorem dX12_readSquare_1 : decode cX12_readSquare 1 = .ok (.getfield 265, 3) := by decide +kernel
theorem dX12_readSquare_4 : decode cX12_readSquare 4 = .ok (.ifCond .eq 9, 3) := by decide +kernel
theorem dX12_readSquare_7 : decode cX12_readSquare 7 = .ok (.aload_n 0, 1) := by decide +kernel
theorem dX12_readSquare_8 : decode cX12_readSquare 8 = .ok (.iconst 3, 1) := by decide +kernel
theorem dX12_readSquare_9 : decode cX12_readSquare 9 = .ok (.invokevirtual 190, 3) := by decide +kernel
theorem dX12_readSquare_12 : decode cX12_readSquare 12 = .ok (.ireturn, 1) := by decide +kernel
theorem dX12_readSquare_13 : decode cX12_readSquare 13 = .ok (.aload_n 0, 1) := by decide +kernel
theorem dX12_readSquare_14 : decode cX12_readSquare 14 = .ok (.iconst 1, 1) := by decide +kernel
theorem dX12_readSquare_15 : decode cX12_readSquare 15 = .ok (.putfield 265, 3) := by decide +kernel
theorem dX12_readSquare_18 : decode cX12_readSquare 18 = .ok (.aload_n 0, 1) := by decide +kernel
theorem dX12_readSquare_19 : decode cX12_readSquare 19 = .ok (.invokevirtual 193, 3) := by decide +kernel
theorem dX12_readSquare_22 : decode cX12_readSquare 22 = .ok (.aload_n 0, 1) := by decide +kernel
theorem dX12_readSquare_23 : decode cX12_readSquare 23 = .ok (.invokevirtual 269, 3) := by decide +kernel
theorem dX12_readSquare_26 : decode cX12_readSquare 26 = .ok (.ifCond .ne 5, 3) := by decide +kernel
theorem dX12_readSquare_29 : decode cX12_readSquare 29 = .ok (.iconst 0, 1) := by decide +kernel
theorem dX12_readSquare_30 : decode cX12_readSquare 30 = .ok (.ireturn, 1) := by decide +kernel
theorem dX12_readSquare_31 : decode cX12_readSquare 31 = .ok (.aload_n 0, 1) := by decide +kernel
theorem dX12_readSquare_32 : decode cX12_readSquare 32 = .ok (.getfield 215, 3) := by decide +kernel
theorem dX12_readSquare_35 : decode cX12_readSquare 35 = .ok (.istore_n 1, 1) := by decide +kernel
theorem dX12_readSquare_36 : decode cX12_readSquare 36 = .ok (.aload_n 0, 1) := by decide +kernel
theorem dX12_readSquare_37 : decode cX12_readSquare 37 = .ok (.getfield 218, 3) := by decide +kernel
theorem dX12_readSquare_40 : decode cX12_readSquare 40 = .ok (.istore_n 2, 1) := by decide +kernel
theorem dX12_readSquare_41 : decode cX12_readSquare 41 = .ok (.aload_n 0, 1) := by decide +kernel
theorem dX12_readSquare_42 : decode cX12_readSquare 42 = .ok (.iconst 1, 1) := by decide +kernel
theorem dX12_readSquare_43 : decode cX12_readSquare 43 = .ok (.bipush 8, 2) := by decide +kernel
theorem dX12_readSquare_45 : decode cX12_readSquare 45 = .ok (.invokevirtual 211, 3) := by decide +kernel
theorem dX12_readSquare_48 : decode cX12_readSquare 48 = .ok (.ifCond .ne 5, 3) := by decide +kernel
theorem dX12_readSquare_51 : decode cX12_readSquare 51 = .ok (.iconst 0, 1) := by decide +kernel
theorem dX12_readSquare_52 : decode cX12_readSquare 52 = .ok (.ireturn, 1) := by decide +kernel
theorem dX12_readSquare_53 : decode cX12_readSquare 53 = .ok (.aload_n 0, 1) := by decide +kernel
theorem dX12_readSquare_54 : decode cX12_readSquare 54 = .ok (.getfield 200, 3) := by decide +kernel
theorem dX12_readSquare_57 : decode cX12_readSquare 57 = .ok (.istore_n 3, 1) := by decide +kernel
theorem dX12_readSquare_58 : decode cX12_readSquare 58 = .ok (.aload_n 0, 1) := by decide +kernel
theorem dX12_readSquare_59 : decode cX12_readSquare 59 = .ok (.getfield 164, 3) := by decide +kernel
theorem dX12_readSquare_62 : decode cX12_readSquare 62 = .ok (.iconst 2, 1) := by decide +kernel
theorem dX12_readSquare_63 : decode cX12_readSquare 63 = .ok (.if_icmp .eq 9, 3) := by decide +kernel
theorem dX12_readSquare_66 : decode cX12_readSquare 66 = .ok (.aload_n 0, 1) := by decide +kernel
theorem dX12_readSquare_67 : decode cX12_readSquare 67 = .ok (.iconst 1, 1) := by decide +kernel
theorem dX12_readSquare_68 : decode cX12_readSquare 68 = .ok (.invokevirtual 190, 3) := by decide +kernel
theorem dX12_readSquare_71 : decode cX12_readSquare 71 = .ok (.ireturn, 1) := by decide +kernel
theorem dX12_readSquare_72 : decode cX12_readSquare 72 = .ok (.aload_n 0, 1) := by decide +kernel
theorem dX12_readSquare_73 : decode cX12_readSquare 73 = .ok (.getfield 174, 3) := by decide +kernel
theorem dX12_readSquare_76 : decode cX12_readSquare 76 = .ok (.iconst 1, 1) := by decide +kernel
theorem dX12_readSquare_77 : decode cX12_readSquare 77 = .ok (.bipush 8, 2) := by decide +kernel
theorem dX12_readSquare_79 : decode cX12_readSquare 79 = .ok (.invokestatic 196, 3) := by decide +kernel
theorem dX12_readSquare_82 : decode cX12_readSquare 82 = .ok (.ifCond .eq 30, 3) := by decide +kernel
theorem dX12_readSquare_85 : decode cX12_readSquare 85 = .ok (.iload_n 1, 1) := by decide +kernel
theorem dX12_readSquare_86 : decode cX12_readSquare 86 = .ok (.iload_n 3, 1) := by decide +kernel
theorem dX12_readSquare_87 : decode cX12_readSquare 87 = .ok (.iadd, 1) := by decide +kernel
theorem dX12_readSquare_88 : decode cX12_readSquare 88 = .ok (.aload_n 0, 1) := by decide +kernel
theorem dX12_readSquare_89 : decode cX12_readSquare 89 = .ok (.getfield 37, 3) := by decide +kernel
theorem dX12_readSquare_92 : decode cX12_readSquare 92 = .ok (.iconst 0, 1) := by decide +kernel
theorem dX12_readSquare_93 : decode cX12_readSquare 93 = .ok (.iaload, 1) := by decide +kernel
theorem dX12_readSquare_94 : decode cX12_readSquare 94 = .ok (.if_icmp .gt 18, 3) := by decide +kernel
theorem dX12_readSquare_97 : decode cX12_readSquare 97 = .ok (.iload_n 2, 1) := by decide +kernel
theorem dX12_readSquare_98 : decode cX12_readSquare 98 = .ok (.aload_n 0, 1) := by decide +kernel
theorem dX12_readSquare_99 : decode cX12_readSquare 99 = .ok (.getfield 174, 3) := by decide +kernel
theorem dX12_readSquare_102 : decode cX12_readSquare 102 = .ok (.iadd, 1) := by decide +kernel
theorem dX12_readSquare_103 : decode cX12_readSquare 103 = .ok (.aload_n 0, 1) := by decide +kernel
theorem dX12_readSquare_104 : decode cX12_readSquare 104 = .ok (.getfield 37, 3) := by decide +kernel
theorem dX12_readSquare_107 : decode cX12_readSquare 107 = .ok (.iconst 1, 1) := by decide +kernel
theorem dX12_readSquare_108 : decode cX12_readSquare 108 = .ok (.iaload, 1) := by decide +kernel
theorem dX12_readSquare_109 : decode cX12_readSquare 109 = .ok (.if_icmp .le 9, 3) := by decide +kernel
theorem dX12_readSquare_112 : decode cX12_readSquare 112 = .ok (.aload_n 0, 1) := by decide +kernel
theorem dX12_readSquare_113 : decode cX12_readSquare 113 = .ok (.iconst 2, 1) := by decide +kernel
theorem dX12_readSquare_114 : decode cX12_readSquare 114 = .ok (.invokevirtual 190, 3) := by decide +kernel
theorem dX12_readSquare_117 : decode cX12_readSquare 117 = .ok (.ireturn, 1) := by decide +kernel
theorem dX12_readSquare_118 : decode cX12_readSquare 118 = .ok (.aload_n 0, 1) := by decide +kernel
theorem dX12_readSquare_119 : decode cX12_readSquare 119 = .ok (.getfield 37, 3) := by decide +kernel
theorem dX12_readSquare_122 : decode cX12_readSquare 122 = .ok (.bipush 6, 2) := by decide +kernel
theorem dX12_readSquare_124 : decode cX12_readSquare 124 = .ok (.iload_n 1, 1) := by decide +kernel
theorem dX12_readSquare_125 : decode cX12_readSquare 125 = .ok (.iastore, 1) := by decide +kernel
theorem dX12_readSquare_126 : decode cX12_readSquare 126 = .ok (.aload_n 0, 1) := by decide +kernel
theorem dX12_readSquare_127 : decode cX12_readSquare 127 = .ok (.getfield 37, 3) := by decide +kernel
theorem dX12_readSquare_130 : decode cX12_readSquare 130 = .ok (.bipush 7, 2) := by decide +kernel
theorem dX12_readSquare_132 : decode cX12_readSquare 132 = .ok (.iload_n 2, 1) := by decide +kernel
theorem dX12_readSquare_133 : decode cX12_readSquare 133 = .ok (.iastore, 1) := by decide +kernel
theorem dX12_readSquare_134 : decode cX12_readSquare 134 = .ok (.aload_n 0, 1) := by decide +kernel
theorem dX12_readSquare_135 : decode cX12_readSquare 135 = .ok (.getfield 37, 3) := by decide +kernel
theorem dX12_readSquare_138 : decode cX12_readSquare 138 = .ok (.bipush 8, 2) := by decide +kernel
theorem dX12_readSquare_140 : decode cX12_readSquare 140 = .ok (.iload_n 3, 1) := by decide +kernel
theorem dX12_readSquare_141 : decode cX12_readSquare 141 = .ok (.iastore, 1) := by decide +kernel
theorem dX12_readSquare_142 : decode cX12_readSquare 142 = .ok (.aload_n 0, 1) := by decide +kernel
theorem dX12_readSquare_143 : decode cX12_readSquare 143 = .ok (.getfield 37, 3) := by decide +kernel
theorem dX12_readSquare_146 : decode cX12_readSquare 146 = .ok (.bipush 9, 2) := by decide +kernel
theorem dX12_readSquare_148 : decode cX12_readSquare 148 = .ok (.aload_n 0, 1) := by decide +kernel
theorem dX12_readSquare_149 : decode cX12_readSquare 149 = .ok (.getfield 174, 3) := by decide +kernel
theorem dX12_readSquare_152 : decode cX12_readSquare 152 = .ok (.iastore, 1) := by decide +kernel
theorem dX12_readSquare_153 : decode cX12_readSquare 153 = .ok (.aload_n 0, 1) := by decide +kernel
theorem dX12_readSquare_154 : decode cX12_readSquare 154 = .ok (.invokevirtual 193, 3) := by decide +kernel
theorem dX12_readSquare_157 : decode cX12_readSquare 157 = .ok (.iconst 1, 1) := by decide +kernel
theorem dX12_readSquare_158 : decode cX12_readSquare 158 = .ok (.ireturn, 1) := by decide +kernel
def wb_X12_readSquare_112  (h : AH) (al0 : Nat)  (post : AH → Int32 → Prop) : Prop := (ob h al0 11) ∧ wp_X12_bad h al0 2 (fun hv1 iv2 => (iv2 = 0 ∨ iv2 = 1) ∧ post hv1 iv2)
set_option maxRecDepth 100000 in
theorem tb_X12_readSquare_112 {G : GG} {p : Program} {l : Launch} {e : Env} {R : Room} {s : State} {m : MethodId} {args : Array Value} {below : List Frame} {meth : Method} {c : Code} {n0 s0 : Nat} {post : AH → Int32 → Prop} (C : Cx G p R s m args meth c 4 cX12_readSquare RX12 n0 s0 4 85) (hr : meth.sig.returnType = (some .boolean))   {h : AH} {al0 : Nat}  (hw : wb_X12_readSquare_112  h al0 post) : AW G p l e R s m args below meth c 4 (QM G (pI post) args s below n0 s0) 112 [(0, .ref (G.1 + al0))] [] h := by
  unfold wb_X12_readSquare_112 at hw
  refine r_aload_n C dX12_readSquare_112 0 rfl ?_
  refine r_iconst (v := 2) C dX12_readSquare_113 (by decide) ?_
  have hob := hw.1
  replace hw := hw.2
  refine r_callV C (As := [.int 2]) (rest := []) (c_X12_bad G h al0 2 _ hw) yl_X12_bad (gm7 (List.mem_of_getElem? (i := 177) rfl) rfl) (gm7 (List.mem_of_getElem? (i := 179) rfl) rfl) (ci := 11) rfl (by decide) (gsel (List.mem_of_getElem? (i := 46) rfl)) hob (by decide) rfl (Nat.le_of_ble_eq_true rfl) dX12_readSquare_114 rfl (kI fun hv1 iv2 hw => ?_)
  exact r_zret C hr dX12_readSquare_117 hw.1 hw.2
def wp_X12_readSquare (h : AH) (a0 : Nat) (post : AH → Int32 → Prop) : Prop := (ob h a0 11) ∧ (((aI h a0 23) = 0 → ((ob h a0 11) ∧ (((1 : Int32) = 0 ∨ (1 : Int32) = 1) ∧ (∀ hv1 : AH, hv1 = hI h a0 23 1 → ((ob hv1 a0 11) ∧ wp_X12_next hv1 a0  (fun hv2  => (ob hv2 a0 11) ∧ wp_X12_takesCell hv2 a0  (fun hv3 iv4 => (¬ iv4 = 0 → ((ob hv3 a0 11) ∧ (∀ iv5 : Int32, iv5 = aI hv3 a0 19 → ((ob hv3 a0 11) ∧ (∀ iv6 : Int32, iv6 = aI hv3 a0 20 → ((ob hv3 a0 11) ∧ wp_X12_takes hv3 a0 1 8 (fun hv7 iv8 => (¬ iv8 = 0 → ((ob hv7 a0 11) ∧ (∀ iv9 : Int32, iv9 = aI hv7 a0 18 → ((ob hv7 a0 11) ∧ (((aI hv7 a0 11) = 2 → ((ob hv7 a0 11) ∧ (wp_X12_isIn hv7 (aI hv7 a0 14) 1 8 (fun hv10 iv11 => (iv11 = 0 → (wb_X12_readSquare_112  hv10 a0 post)) ∧ (¬ iv11 = 0 → ((ob hv10 a0 11) ∧ (∃ rv12, aP hv10 a0 7 = some rv12 ∧ ((ob hv10 rv12 13) ∧ ((vp_in 0 (aL hv10 rv12)) ∧ (((aI hv10 rv12 (0 : Int32).toNatClampNeg) < (iv5 + iv9) → (wb_X12_readSquare_112  hv10 a0 post)) ∧ (¬ (aI hv10 rv12 (0 : Int32).toNatClampNeg) < (iv5 + iv9) → ((ob hv10 a0 11) ∧ ((ob hv10 a0 11) ∧ (∃ rv13, aP hv10 a0 7 = some rv13 ∧ ((ob hv10 rv13 13) ∧ ((vp_in 1 (aL hv10 rv13)) ∧ (((iv6 + (aI hv10 a0 14)) ≤ (aI hv10 rv13 (1 : Int32).toNatClampNeg) → ((ob hv10 a0 11) ∧ (∃ rv14, aP hv10 a0 7 = some rv14 ∧ ((ob hv10 rv14 13) ∧ ((vp_in 6 (aL hv10 rv14)) ∧ (∀ hv15 : AH, hv15 = hI hv10 rv14 (6 : Int32).toNatClampNeg iv5 → ((ob hv15 a0 11) ∧ (∃ rv16, aP hv15 a0 7 = some rv16 ∧ ((ob hv15 rv16 13) ∧ ((vp_in 7 (aL hv15 rv16)) ∧ (∀ hv17 : AH, hv17 = hI hv15 rv16 (7 : Int32).toNatClampNeg iv6 → ((ob hv17 a0 11) ∧ (∃ rv18, aP hv17 a0 7 = some rv18 ∧ ((ob hv17 rv18 13) ∧ ((vp_in 8 (aL hv17 rv18)) ∧ (∀ hv19 : AH, hv19 = hI hv17 rv18 (8 : Int32).toNatClampNeg iv9 → ((ob hv19 a0 11) ∧ (∃ rv20, aP hv19 a0 7 = some rv20 ∧ ((ob hv19 a0 11) ∧ ((ob hv19 rv20 13) ∧ ((vp_in 9 (aL hv19 rv20)) ∧ (∀ hv21 : AH, hv21 = hI hv19 rv20 (9 : Int32).toNatClampNeg (aI hv19 a0 14) → ((ob hv21 a0 11) ∧ wp_X12_next hv21 a0  (fun hv22  => ((1 : Int32) = 0 ∨ (1 : Int32) = 1) ∧ post hv22 1)))))))))))))))))))))))) ∧ (¬ (iv6 + (aI hv10 a0 14)) ≤ (aI hv10 rv13 (1 : Int32).toNatClampNeg) → (wb_X12_readSquare_112  hv10 a0 post))))))))))))))))))) ∧ (¬ (aI hv7 a0 11) = 2 → ((ob hv7 a0 11) ∧ wp_X12_bad hv7 a0 1 (fun hv23 iv24 => (iv24 = 0 ∨ iv24 = 1) ∧ post hv23 iv24)))))))) ∧ (iv8 = 0 → (((0 : Int32) = 0 ∨ (0 : Int32) = 1) ∧ post hv7 0))))))))) ∧ (iv4 = 0 → (((0 : Int32) = 0 ∨ (0 : Int32) = 1) ∧ post hv3 0))))))))) ∧ (¬ (aI h a0 23) = 0 → ((ob h a0 11) ∧ wp_X12_bad h a0 3 (fun hv25 iv26 => (iv26 = 0 ∨ iv26 = 1) ∧ post hv25 iv26))))
set_option maxRecDepth 100000 in
theorem c_X12_readSquare (G : GG) (h : AH) (a0 : Nat) (post : AH → Int32 → Prop) (hw : wp_X12_readSquare h a0 post) : MC G yX12_readSquare cX12_readSquare 4 (some .boolean) 4 85 h [.ref (G.1 + a0)] (pI post) := by
  refine MC.of (lv := [(0, .ref (G.1 + a0))]) (by decide) (Nat.le_of_ble_eq_true rfl) rfl fun p l e R s m args below meth c C hr hnm => ?_
  unfold wp_X12_readSquare at hw
  refine r_aload_n C dX12_readSquare_0 0 rfl ?_
  refine r_getI C fl_RX12_265_11 hw.1 (fun _ _ _ => rfl) dX12_readSquare_1 ?_
  replace hw := hw.2
  refine r_if_eq C dX12_readSquare_4 13 (by decide) (fun hc => ?_) (fun hc => ?_)
  · replace hw := hw.1 hc
    refine r_aload_n C dX12_readSquare_13 0 rfl ?_
    refine r_iconst (v := 1) C dX12_readSquare_14 (by decide) ?_
    refine r_putZ C fp_RX12_265_11 hw.1 hw.2.1 rfl dX12_readSquare_15 ?_
    replace hw := hw.2.2
    refine r_toph fun hv1 ehv1 => ?_
    replace hw := hw hv1 ehv1
    refine r_aload_n C dX12_readSquare_18 0 rfl ?_
    have hob := hw.1
    replace hw := hw.2
    refine r_callV C (As := []) (rest := []) (c_X12_next G hv1 a0  _ hw) yl_X12_next (gm7 (List.mem_of_getElem? (i := 151) rfl) rfl) (gm7 (List.mem_of_getElem? (i := 153) rfl) rfl) (ci := 11) rfl (by decide) (gsel (List.mem_of_getElem? (i := 41) rfl)) hob (by decide) rfl (Nat.le_of_ble_eq_true rfl) dX12_readSquare_19 rfl (kV fun hv2  hw => ?_)
    refine r_aload_n C dX12_readSquare_22 0 rfl ?_
    have hob := hw.1
    replace hw := hw.2
    refine r_callV C (As := []) (rest := []) (c_X12_takesCell G hv2 a0  _ hw) yl_X12_takesCell (gm8 (List.mem_of_getElem? (i := 6) rfl) rfl) (gm8 (List.mem_of_getElem? (i := 8) rfl) rfl) (ci := 11) rfl (by decide) (gsel (List.mem_of_getElem? (i := 61) rfl)) hob (by decide) rfl (Nat.le_of_ble_eq_true rfl) dX12_readSquare_23 rfl (kI fun hv3 iv4 hw => ?_)
    refine r_if_ne C dX12_readSquare_26 31 (by decide) (fun hc => ?_) (fun hc => ?_)
    · replace hw := hw.1 hc
      refine r_aload_n C dX12_readSquare_31 0 rfl ?_
      refine r_getI C fl_RX12_215_11 hw.1 (fun _ _ _ => rfl) dX12_readSquare_32 ?_
      replace hw := hw.2
      refine r_topi fun iv5 eiv5 => ?_
      replace hw := hw iv5 eiv5
      refine r_istore_n C dX12_readSquare_35 [(1, .int iv5), (0, .ref (G.1 + a0))] (by decide) rfl ?_
      refine r_aload_n C dX12_readSquare_36 1 rfl ?_
      refine r_getI C fl_RX12_218_11 hw.1 (fun _ _ _ => rfl) dX12_readSquare_37 ?_
      replace hw := hw.2
      refine r_topi fun iv6 eiv6 => ?_
      replace hw := hw iv6 eiv6
      refine r_istore_n C dX12_readSquare_40 [(2, .int iv6), (1, .int iv5), (0, .ref (G.1 + a0))] (by decide) rfl ?_
      refine r_aload_n C dX12_readSquare_41 2 rfl ?_
      refine r_iconst (v := 1) C dX12_readSquare_42 (by decide) ?_
      refine r_bipush (v := 8) C dX12_readSquare_43 (by decide) ?_
      have hob := hw.1
      replace hw := hw.2
      refine r_callV C (As := [.int 1, .int 8]) (rest := []) (c_X12_takes G hv3 a0 1 8 _ hw) yl_X12_takes (gm7 (List.mem_of_getElem? (i := 195) rfl) rfl) (gm7 (List.mem_of_getElem? (i := 197) rfl) rfl) (ci := 11) rfl (by decide) (gsel (List.mem_of_getElem? (i := 49) rfl)) hob (by decide) rfl (Nat.le_of_ble_eq_true rfl) dX12_readSquare_45 rfl (kI fun hv7 iv8 hw => ?_)
      refine r_if_ne C dX12_readSquare_48 53 (by decide) (fun hc => ?_) (fun hc => ?_)
      · replace hw := hw.1 hc
        refine r_aload_n C dX12_readSquare_53 2 rfl ?_
        refine r_getI C fl_RX12_200_11 hw.1 (fun _ _ _ => rfl) dX12_readSquare_54 ?_
        replace hw := hw.2
        refine r_topi fun iv9 eiv9 => ?_
        replace hw := hw iv9 eiv9
        refine r_istore_n C dX12_readSquare_57 [(3, .int iv9), (2, .int iv6), (1, .int iv5), (0, .ref (G.1 + a0))] (by decide) rfl ?_
        refine r_aload_n C dX12_readSquare_58 3 rfl ?_
        refine r_getI C fl_RX12_164_11 hw.1 (fun _ _ _ => rfl) dX12_readSquare_59 ?_
        replace hw := hw.2
        refine r_iconst (v := 2) C dX12_readSquare_62 (by decide) ?_
        refine r_icmp_eq C dX12_readSquare_63 72 (by decide) (fun hc => ?_) (fun hc => ?_)
        · replace hw := hw.1 hc
          refine r_aload_n C dX12_readSquare_72 3 rfl ?_
          refine r_getI C fl_RX12_174_11 hw.1 (fun _ _ _ => rfl) dX12_readSquare_73 ?_
          replace hw := hw.2
          refine r_iconst (v := 1) C dX12_readSquare_76 (by decide) ?_
          refine r_bipush (v := 8) C dX12_readSquare_77 (by decide) ?_
          refine r_callS C (As := [.int (aI hv7 a0 14), .int 1, .int 8]) (rest := []) (c_X12_isIn G hv7 (aI hv7 a0 14) 1 8 _ hw) yl_X12_isIn (gm7 (List.mem_of_getElem? (i := 189) rfl) rfl) (gm7 (List.mem_of_getElem? (i := 190) rfl) rfl) (by decide) rfl (Nat.le_of_ble_eq_true rfl) dX12_readSquare_79 rfl (kI fun hv10 iv11 hw => ?_)
          refine r_if_eq C dX12_readSquare_82 112 (by decide) (fun hc => ?_) (fun hc => ?_)
          · replace hw := hw.1 hc
            refine r_sub [3] rfl ?_
            exact tb_X12_readSquare_112 C hr  hw
          · replace hw := hw.2 hc
            refine r_iload_n C dX12_readSquare_85 2 rfl ?_
            refine r_iload_n C dX12_readSquare_86 0 rfl ?_
            refine r_iadd C dX12_readSquare_87 ?_
            refine r_aload_n C dX12_readSquare_88 3 rfl ?_
            have hob := hw.1
            obtain ⟨rv12, hp, hw⟩ := hw.2
            refine r_getP C fl_RX12_37_11 hob hp (fun _ _ _ => rfl) dX12_readSquare_89 ?_
            refine r_iconst (v := 0) C dX12_readSquare_92 (by decide) ?_
            refine r_iaload C hw.1 hw.2.1 dX12_readSquare_93 ?_
            replace hw := hw.2.2
            refine r_icmp_gt C dX12_readSquare_94 112 (by decide) (fun hc => ?_) (fun hc => ?_)
            · replace hw := hw.1 hc
              refine r_sub [3] rfl ?_
              exact tb_X12_readSquare_112 C hr  hw
            · replace hw := hw.2 hc
              refine r_iload_n C dX12_readSquare_97 1 rfl ?_
              refine r_aload_n C dX12_readSquare_98 3 rfl ?_
              refine r_getI C fl_RX12_174_11 hw.1 (fun _ _ _ => rfl) dX12_readSquare_99 ?_
              replace hw := hw.2
              refine r_iadd C dX12_readSquare_102 ?_
              refine r_aload_n C dX12_readSquare_103 3 rfl ?_
              have hob := hw.1
              obtain ⟨rv13, hp, hw⟩ := hw.2
              refine r_getP C fl_RX12_37_11 hob hp (fun _ _ _ => rfl) dX12_readSquare_104 ?_
              refine r_iconst (v := 1) C dX12_readSquare_107 (by decide) ?_
              refine r_iaload C hw.1 hw.2.1 dX12_readSquare_108 ?_
              replace hw := hw.2.2
              refine r_icmp_le C dX12_readSquare_109 118 (by decide) (fun hc => ?_) (fun hc => ?_)
              · replace hw := hw.1 hc
                refine r_aload_n C dX12_readSquare_118 3 rfl ?_
                have hob := hw.1
                obtain ⟨rv14, hp, hw⟩ := hw.2
                refine r_getP C fl_RX12_37_11 hob hp (fun _ _ _ => rfl) dX12_readSquare_119 ?_
                refine r_bipush (v := 6) C dX12_readSquare_122 (by decide) ?_
                refine r_iload_n C dX12_readSquare_124 2 rfl ?_
                refine r_iastore C hw.1 hw.2.1 dX12_readSquare_125 ?_
                replace hw := hw.2.2
                refine r_toph fun hv15 ehv15 => ?_
                replace hw := hw hv15 ehv15
                refine r_aload_n C dX12_readSquare_126 3 rfl ?_
                have hob := hw.1
                obtain ⟨rv16, hp, hw⟩ := hw.2
                refine r_getP C fl_RX12_37_11 hob hp (fun _ _ _ => rfl) dX12_readSquare_127 ?_
                refine r_bipush (v := 7) C dX12_readSquare_130 (by decide) ?_
                refine r_iload_n C dX12_readSquare_132 1 rfl ?_
                refine r_iastore C hw.1 hw.2.1 dX12_readSquare_133 ?_
                replace hw := hw.2.2
                refine r_toph fun hv17 ehv17 => ?_
                replace hw := hw hv17 ehv17
                refine r_aload_n C dX12_readSquare_134 3 rfl ?_
                have hob := hw.1
                obtain ⟨rv18, hp, hw⟩ := hw.2
                refine r_getP C fl_RX12_37_11 hob hp (fun _ _ _ => rfl) dX12_readSquare_135 ?_
                refine r_bipush (v := 8) C dX12_readSquare_138 (by decide) ?_
                refine r_iload_n C dX12_readSquare_140 0 rfl ?_
                refine r_iastore C hw.1 hw.2.1 dX12_readSquare_141 ?_
                replace hw := hw.2.2
                refine r_toph fun hv19 ehv19 => ?_
                replace hw := hw hv19 ehv19
                refine r_aload_n C dX12_readSquare_142 3 rfl ?_
                have hob := hw.1
                obtain ⟨rv20, hp, hw⟩ := hw.2
                refine r_getP C fl_RX12_37_11 hob hp (fun _ _ _ => rfl) dX12_readSquare_143 ?_
                refine r_bipush (v := 9) C dX12_readSquare_146 (by decide) ?_
                refine r_aload_n C dX12_readSquare_148 3 rfl ?_
                refine r_getI C fl_RX12_174_11 hw.1 (fun _ _ _ => rfl) dX12_readSquare_149 ?_
                replace hw := hw.2
                refine r_iastore C hw.1 hw.2.1 dX12_readSquare_152 ?_
                replace hw := hw.2.2
                refine r_toph fun hv21 ehv21 => ?_
                replace hw := hw hv21 ehv21
                refine r_aload_n C dX12_readSquare_153 3 rfl ?_
                have hob := hw.1
                replace hw := hw.2
                refine r_callV C (As := []) (rest := []) (c_X12_next G hv21 a0  _ hw) yl_X12_next (gm7 (List.mem_of_getElem? (i := 151) rfl) rfl) (gm7 (List.mem_of_getElem? (i := 153) rfl) rfl) (ci := 11) rfl (by decide) (gsel (List.mem_of_getElem? (i := 41) rfl)) hob (by decide) rfl (Nat.le_of_ble_eq_true rfl) dX12_readSquare_154 rfl (kV fun hv22  hw => ?_)
                refine r_iconst (v := 1) C dX12_readSquare_157 (by decide) ?_
                exact r_zret C hr dX12_readSquare_158 hw.1 hw.2
              · replace hw := hw.2 hc
                refine r_sub [3] rfl ?_
                exact tb_X12_readSquare_112 C hr  hw
        · replace hw := hw.2 hc
          refine r_aload_n C dX12_readSquare_66 3 rfl ?_
          refine r_iconst (v := 1) C dX12_readSquare_67 (by decide) ?_
          have hob := hw.1
          replace hw := hw.2
          refine r_callV C (As := [.int 1]) (rest := []) (c_X12_bad G hv7 a0 1 _ hw) yl_X12_bad (gm7 (List.mem_of_getElem? (i := 177) rfl) rfl) (gm7 (List.mem_of_getElem? (i := 179) rfl) rfl) (ci := 11) rfl (by decide) (gsel (List.mem_of_getElem? (i := 46) rfl)) hob (by decide) rfl (Nat.le_of_ble_eq_true rfl) dX12_readSquare_68 rfl (kI fun hv23 iv24 hw => ?_)
          exact r_zret C hr dX12_readSquare_71 hw.1 hw.2
      · replace hw := hw.2 hc
        refine r_iconst (v := 0) C dX12_readSquare_51 (by decide) ?_
        exact r_zret C hr dX12_readSquare_52 hw.1 hw.2
    · replace hw := hw.2 hc
      refine r_iconst (v := 0) C dX12_readSquare_29 (by decide) ?_
      exact r_zret C hr dX12_readSquare_30 hw.1 hw.2
  · replace hw := hw.2 hc
    refine r_aload_n C dX12_readSquare_7 0 rfl ?_
    refine r_iconst (v := 3) C dX12_readSquare_8 (by decide) ?_
    have hob := hw.1
    replace hw := hw.2
    refine r_callV C (As := [.int 3]) (rest := []) (c_X12_bad G h a0 3 _ hw) yl_X12_bad (gm7 (List.mem_of_getElem? (i := 177) rfl) rfl) (gm7 (List.mem_of_getElem? (i := 179) rfl) rfl) (ci := 11) rfl (by decide) (gsel (List.mem_of_getElem? (i := 46) rfl)) hob (by decide) rfl (Nat.le_of_ble_eq_true rfl) dX12_readSquare_9 rfl (kI fun hv25 iv26 hw => ?_)
    exact r_zret C hr dX12_readSquare_12 hw.1 hw.2
theorem dX12_side_0 : decode cX12_side 0 = .ok (.aload_n 0, 1) := by decide +kernel
theorem dX12_side_1 : decode cX12_side 1 = .ok (.ldc2_w 137, 3) := by decide +kernel
theorem dX12_side_4 : decode cX12_side 4 = .ok (.invokevirtual 221, 3) := by decide +kernel
theorem dX12_side_7 : decode cX12_side 7 = .ok (.ifCond .eq 7, 3) := by decide +kernel
theorem dX12_side_10 : decode cX12_side 10 = .ok (.iconst 0, 1) := by decide +kernel
theorem dX12_side_11 : decode cX12_side 11 = .ok (.goto 46, 3) := by decide +kernel
theorem dX12_side_14 : decode cX12_side 14 = .ok (.aload_n 0, 1) := by decide +kernel
theorem dX12_side_15 : decode cX12_side 15 = .ok (.ldc2_w 139, 3) := by decide +kernel
theorem dX12_side_18 : decode cX12_side 18 = .ok (.invokevirtual 221, 3) := by decide +kernel
theorem dX12_side_21 : decode cX12_side 21 = .ok (.ifCond .eq 7, 3) := by decide +kernel
theorem dX12_side_24 : decode cX12_side 24 = .ok (.iconst 1, 1) := by decide +kernel
theorem dX12_side_25 : decode cX12_side 25 = .ok (.goto 32, 3) := by decide +kernel
theorem dX12_side_28 : decode cX12_side 28 = .ok (.aload_n 0, 1) := by decide +kernel
theorem dX12_side_29 : decode cX12_side 29 = .ok (.ldc2_w 141, 3) := by decide +kernel
theorem dX12_side_32 : decode cX12_side 32 = .ok (.invokevirtual 221, 3) := by decide +kernel
theorem dX12_side_35 : decode cX12_side 35 = .ok (.ifCond .eq 7, 3) := by decide +kernel
theorem dX12_side_38 : decode cX12_side 38 = .ok (.iconst 2, 1) := by decide +kernel
theorem dX12_side_39 : decode cX12_side 39 = .ok (.goto 18, 3) := by decide +kernel
theorem dX12_side_42 : decode cX12_side 42 = .ok (.aload_n 0, 1) := by decide +kernel
theorem dX12_side_43 : decode cX12_side 43 = .ok (.ldc2_w 143, 3) := by decide +kernel
theorem dX12_side_46 : decode cX12_side 46 = .ok (.invokevirtual 221, 3) := by decide +kernel
theorem dX12_side_49 : decode cX12_side 49 = .ok (.ifCond .eq 7, 3) := by decide +kernel
theorem dX12_side_52 : decode cX12_side 52 = .ok (.iconst 3, 1) := by decide +kernel
theorem dX12_side_53 : decode cX12_side 53 = .ok (.goto 4, 3) := by decide +kernel
theorem dX12_side_56 : decode cX12_side 56 = .ok (.iconst (-1), 1) := by decide +kernel
theorem dX12_side_57 : decode cX12_side 57 = .ok (.ireturn, 1) := by decide +kernel
def wp_X12_side (h : AH) (a0 : Nat) (post : AH → Int32 → Prop) : Prop := (ob h a0 11) ∧ wp_X12_isWord h a0 474316174440 (fun hv1 iv2 => (iv2 = 0 → ((ob hv1 a0 11) ∧ wp_X12_isWord hv1 a0 1700885364 (fun hv3 iv4 => (iv4 = 0 → ((ob hv3 a0 11) ∧ wp_X12_isWord hv3 a0 495791207528 (fun hv5 iv6 => (iv6 = 0 → ((ob hv5 a0 11) ∧ wp_X12_isWord hv5 a0 2003137396 (fun hv7 iv8 => (iv8 = 0 → (post hv7 (-1))) ∧ (¬ iv8 = 0 → (post hv7 3))))) ∧ (¬ iv6 = 0 → (post hv5 2))))) ∧ (¬ iv4 = 0 → (post hv3 1))))) ∧ (¬ iv2 = 0 → (post hv1 0)))
set_option maxRecDepth 100000 in
theorem c_X12_side (G : GG) (h : AH) (a0 : Nat) (post : AH → Int32 → Prop) (hw : wp_X12_side h a0 post) : MC G yX12_side cX12_side 1 (some .int) 1 22 h [.ref (G.1 + a0)] (pI post) := by
  refine MC.of (lv := [(0, .ref (G.1 + a0))]) (by decide) (Nat.le_of_ble_eq_true rfl) rfl fun p l e R s m args below meth c C hr hnm => ?_
  unfold wp_X12_side at hw
  refine r_aload_n C dX12_side_0 0 rfl ?_
  refine r_ldc2 (v := 474316174440) C (gm6 (List.mem_of_getElem? (i := 211) rfl) rfl) dX12_side_1 ?_
  have hob := hw.1
  replace hw := hw.2
  refine r_callV C (As := [.long 474316174440]) (rest := []) (c_X12_isWord G h a0 474316174440 _ hw) yl_X12_isWord (gm7 (List.mem_of_getElem? (i := 169) rfl) rfl) (gm7 (List.mem_of_getElem? (i := 171) rfl) rfl) (ci := 11) rfl (by decide) (gsel (List.mem_of_getElem? (i := 44) rfl)) hob (by decide) rfl (Nat.le_of_ble_eq_true rfl) dX12_side_4 rfl (kI fun hv1 iv2 hw => ?_)
  refine r_if_eq C dX12_side_7 14 (by decide) (fun hc => ?_) (fun hc => ?_)
  · replace hw := hw.1 hc
    refine r_aload_n C dX12_side_14 0 rfl ?_
    refine r_ldc2 (v := 1700885364) C (gm6 (List.mem_of_getElem? (i := 212) rfl) rfl) dX12_side_15 ?_
    have hob := hw.1
    replace hw := hw.2
    refine r_callV C (As := [.long 1700885364]) (rest := []) (c_X12_isWord G hv1 a0 1700885364 _ hw) yl_X12_isWord (gm7 (List.mem_of_getElem? (i := 169) rfl) rfl) (gm7 (List.mem_of_getElem? (i := 171) rfl) rfl) (ci := 11) rfl (by decide) (gsel (List.mem_of_getElem? (i := 44) rfl)) hob (by decide) rfl (Nat.le_of_ble_eq_true rfl) dX12_side_18 rfl (kI fun hv3 iv4 hw => ?_)
    refine r_if_eq C dX12_side_21 28 (by decide) (fun hc => ?_) (fun hc => ?_)
    · replace hw := hw.1 hc
      refine r_aload_n C dX12_side_28 0 rfl ?_
      refine r_ldc2 (v := 495791207528) C (gm6 (List.mem_of_getElem? (i := 213) rfl) rfl) dX12_side_29 ?_
      have hob := hw.1
      replace hw := hw.2
      refine r_callV C (As := [.long 495791207528]) (rest := []) (c_X12_isWord G hv3 a0 495791207528 _ hw) yl_X12_isWord (gm7 (List.mem_of_getElem? (i := 169) rfl) rfl) (gm7 (List.mem_of_getElem? (i := 171) rfl) rfl) (ci := 11) rfl (by decide) (gsel (List.mem_of_getElem? (i := 44) rfl)) hob (by decide) rfl (Nat.le_of_ble_eq_true rfl) dX12_side_32 rfl (kI fun hv5 iv6 hw => ?_)
      refine r_if_eq C dX12_side_35 42 (by decide) (fun hc => ?_) (fun hc => ?_)
      · replace hw := hw.1 hc
        refine r_aload_n C dX12_side_42 0 rfl ?_
        refine r_ldc2 (v := 2003137396) C (gm6 (List.mem_of_getElem? (i := 214) rfl) rfl) dX12_side_43 ?_
        have hob := hw.1
        replace hw := hw.2
        refine r_callV C (As := [.long 2003137396]) (rest := []) (c_X12_isWord G hv5 a0 2003137396 _ hw) yl_X12_isWord (gm7 (List.mem_of_getElem? (i := 169) rfl) rfl) (gm7 (List.mem_of_getElem? (i := 171) rfl) rfl) (ci := 11) rfl (by decide) (gsel (List.mem_of_getElem? (i := 44) rfl)) hob (by decide) rfl (Nat.le_of_ble_eq_true rfl) dX12_side_46 rfl (kI fun hv7 iv8 hw => ?_)
        refine r_if_eq C dX12_side_49 56 (by decide) (fun hc => ?_) (fun hc => ?_)
        · replace hw := hw.1 hc
          refine r_iconst (v := (-1)) C dX12_side_56 (by decide) ?_
          exact r_iret C hr dX12_side_57 hw
        · replace hw := hw.2 hc
          refine r_iconst (v := 3) C dX12_side_52 (by decide) ?_
          refine r_goto C dX12_side_53 57 (by decide) ?_
          exact r_iret C hr dX12_side_57 hw
      · replace hw := hw.2 hc
        refine r_iconst (v := 2) C dX12_side_38 (by decide) ?_
        refine r_goto C dX12_side_39 57 (by decide) ?_
        exact r_iret C hr dX12_side_57 hw
    · replace hw := hw.2 hc
      refine r_iconst (v := 1) C dX12_side_24 (by decide) ?_
      refine r_goto C dX12_side_25 57 (by decide) ?_
      exact r_iret C hr dX12_side_57 hw
  · replace hw := hw.2 hc
    refine r_iconst (v := 0) C dX12_side_10 (by decide) ?_
    refine r_goto C dX12_side_11 57 (by decide) ?_
    exact r_iret C hr dX12_side_57 hw
theorem dX12_readWant_0 : decode cX12_readWant 0 = .ok (.aload_n 0, 1) := by decide +kernel
theorem dX12_readWant_1 : decode cX12_readWant 1 = .ok (.getfield 37, 3) := by decide +kernel
theorem dX12_readWant_4 : decode cX12_readWant 4 = .ok (.iconst 5, 1) := by decide +kernel
theorem dX12_readWant_5 : decode cX12_readWant 5 = .ok (.iaload, 1) := by decide +kernel
theorem dX12_readWant_6 : decode cX12_readWant 6 = .ok (.bipush 10, 2) := by decide +kernel
theorem dX12_readWant_8 : decode cX12_readWant 8 = .ok (.if_icmp .ne 9, 3) := by decide +kernel
theorem dX12_readWant_11 : decode cX12_readWant 11 = .ok (.aload_n 0, 1) := by decide +kernel
theorem dX12_readWant_12 : decode cX12_readWant 12 = .ok (.iconst 4, 1) := by decide +kernel
theorem dX12_readWant_13 : decode cX12_readWant 13 = .ok (.invokevirtual 190, 3) := by decide +kernel
theorem dX12_readWant_16 : decode cX12_readWant 16 = .ok (.ireturn, 1) := by decide +kernel
theorem dX12_readWant_17 : decode cX12_readWant 17 = .ok (.aload_n 0, 1) := by decide +kernel
theorem dX12_readWant_18 : decode cX12_readWant 18 = .ok (.invokevirtual 193, 3) := by decide +kernel
theorem dX12_readWant_21 : decode cX12_readWant 21 = .ok (.sipush 175, 3) := by decide +kernel
theorem dX12_readWant_24 : decode cX12_readWant 24 = .ok (.iconst 5, 1) := by decide +kernel
theorem dX12_readWant_25 : decode cX12_readWant 25 = .ok (.aload_n 0, 1) := by decide +kernel
theorem dX12_readWant_26 : decode cX12_readWant 26 = .ok (.getfield 37, 3) := by decide +kernel
theorem dX12_readWant_29 : decode cX12_readWant 29 = .ok (.iconst 5, 1) := by decide +kernel
theorem dX12_readWant_30 : decode cX12_readWant 30 = .ok (.iaload, 1) := by decide +kernel
theorem dX12_readWant_31 : decode cX12_readWant 31 = .ok (.imul, 1) := by decide +kernel
theorem dX12_readWant_32 : decode cX12_readWant 32 = .ok (.iadd, 1) := by decide +kernel
theorem dX12_readWant_33 : decode cX12_readWant 33 = .ok (.istore_n 2, 1) := by decide +kernel
theorem dX12_readWant_34 : decode cX12_readWant 34 = .ok (.aload_n 0, 1) := by decide +kernel
theorem dX12_readWant_35 : decode cX12_readWant 35 = .ok (.getfield 37, 3) := by decide +kernel
theorem dX12_readWant_38 : decode cX12_readWant 38 = .ok (.iload_n 2, 1) := by decide +kernel
theorem dX12_readWant_39 : decode cX12_readWant 39 = .ok (.iload_n 1, 1) := by decide +kernel
theorem dX12_readWant_40 : decode cX12_readWant 40 = .ok (.iastore, 1) := by decide +kernel
theorem dX12_readWant_41 : decode cX12_readWant 41 = .ok (.aload_n 0, 1) := by decide +kernel
theorem dX12_readWant_42 : decode cX12_readWant 42 = .ok (.bipush 8, 2) := by decide +kernel
theorem dX12_readWant_44 : decode cX12_readWant 44 = .ok (.aload_n 0, 1) := by decide +kernel
theorem dX12_readWant_45 : decode cX12_readWant 45 = .ok (.getfield 37, 3) := by decide +kernel
theorem dX12_readWant_48 : decode cX12_readWant 48 = .ok (.iconst 2, 1) := by decide +kernel
theorem dX12_readWant_49 : decode cX12_readWant 49 = .ok (.iaload, 1) := by decide +kernel
theorem dX12_readWant_50 : decode cX12_readWant 50 = .ok (.iconst (-1), 1) := by decide +kernel
theorem dX12_readWant_51 : decode cX12_readWant 51 = .ok (.invokevirtual 259, 3) := by decide +kernel
theorem dX12_readWant_54 : decode cX12_readWant 54 = .ok (.ifCond .ne 5, 3) := by decide +kernel
theorem dX12_readWant_57 : decode cX12_readWant 57 = .ok (.iconst 0, 1) := by decide +kernel
theorem dX12_readWant_58 : decode cX12_readWant 58 = .ok (.ireturn, 1) := by decide +kernel
theorem dX12_readWant_59 : decode cX12_readWant 59 = .ok (.aload_n 0, 1) := by decide +kernel
theorem dX12_readWant_60 : decode cX12_readWant 60 = .ok (.getfield 37, 3) := by decide +kernel
theorem dX12_readWant_63 : decode cX12_readWant 63 = .ok (.iload_n 2, 1) := by decide +kernel
theorem dX12_readWant_64 : decode cX12_readWant 64 = .ok (.iconst 1, 1) := by decide +kernel
theorem dX12_readWant_65 : decode cX12_readWant 65 = .ok (.iadd, 1) := by decide +kernel
theorem dX12_readWant_66 : decode cX12_readWant 66 = .ok (.aload_n 0, 1) := by decide +kernel
theorem dX12_readWant_67 : decode cX12_readWant 67 = .ok (.getfield 200, 3) := by decide +kernel
theorem dX12_readWant_70 : decode cX12_readWant 70 = .ok (.iastore, 1) := by decide +kernel
theorem dX12_readWant_71 : decode cX12_readWant 71 = .ok (.iload_n 1, 1) := by decide +kernel
theorem dX12_readWant_72 : decode cX12_readWant 72 = .ok (.iconst 2, 1) := by decide +kernel
theorem dX12_readWant_73 : decode cX12_readWant 73 = .ok (.if_icmp .ge 43, 3) := by decide +kernel
theorem dX12_readWant_76 : decode cX12_readWant 76 = .ok (.aload_n 0, 1) := by decide +kernel
theorem dX12_readWant_77 : decode cX12_readWant 77 = .ok (.bipush 8, 2) := by decide +kernel
theorem dX12_readWant_79 : decode cX12_readWant 79 = .ok (.aload_n 0, 1) := by decide +kernel
theorem dX12_readWant_80 : decode cX12_readWant 80 = .ok (.getfield 37, 3) := by decide +kernel
theorem dX12_readWant_83 : decode cX12_readWant 83 = .ok (.iconst 2, 1) := by decide +kernel
theorem dX12_readWant_84 : decode cX12_readWant 84 = .ok (.iaload, 1) := by decide +kernel
theorem dX12_readWant_85 : decode cX12_readWant 85 = .ok (.aload_n 0, 1) := by decide +kernel
theorem dX12_readWant_86 : decode cX12_readWant 86 = .ok (.getfield 37, 3) := by decide +kernel
theorem dX12_readWant_89 : decode cX12_readWant 89 = .ok (.iload_n 2, 1) := by decide +kernel
theorem dX12_readWant_90 : decode cX12_readWant 90 = .ok (.iconst 1, 1) := by decide +kernel
theorem dX12_readWant_91 : decode cX12_readWant 91 = .ok (.iadd, 1) := by decide +kernel
theorem dX12_readWant_92 : decode cX12_readWant 92 = .ok (.iaload, 1) := by decide +kernel
theorem dX12_readWant_93 : decode cX12_readWant 93 = .ok (.invokevirtual 259, 3) := by decide +kernel
theorem dX12_readWant_96 : decode cX12_readWant 96 = .ok (.ifCond .ne 5, 3) := by decide +kernel
theorem dX12_readWant_99 : decode cX12_readWant 99 = .ok (.iconst 0, 1) := by decide +kernel
theorem dX12_readWant_100 : decode cX12_readWant 100 = .ok (.ireturn, 1) := by decide +kernel
theorem dX12_readWant_101 : decode cX12_readWant 101 = .ok (.aload_n 0, 1) := by decide +kernel
theorem dX12_readWant_102 : decode cX12_readWant 102 = .ok (.getfield 37, 3) := by decide +kernel
theorem dX12_readWant_105 : decode cX12_readWant 105 = .ok (.iload_n 2, 1) := by decide +kernel
theorem dX12_readWant_106 : decode cX12_readWant 106 = .ok (.iconst 2, 1) := by decide +kernel
theorem dX12_readWant_107 : decode cX12_readWant 107 = .ok (.iadd, 1) := by decide +kernel
theorem dX12_readWant_108 : decode cX12_readWant 108 = .ok (.aload_n 0, 1) := by decide +kernel
theorem dX12_readWant_109 : decode cX12_readWant 109 = .ok (.getfield 200, 3) := by decide +kernel
theorem dX12_readWant_112 : decode cX12_readWant 112 = .ok (.iastore, 1) := by decide +kernel
theorem dX12_readWant_113 : decode cX12_readWant 113 = .ok (.goto 72, 3) := by decide +kernel
theorem dX12_readWant_116 : decode cX12_readWant 116 = .ok (.iload_n 1, 1) := by decide +kernel
theorem dX12_readWant_117 : decode cX12_readWant 117 = .ok (.iconst 2, 1) := by decide +kernel
theorem dX12_readWant_118 : decode cX12_readWant 118 = .ok (.if_icmp .ne 34, 3) := by decide +kernel
theorem dX12_readWant_121 : decode cX12_readWant 121 = .ok (.aload_n 0, 1) := by decide +kernel
theorem dX12_readWant_122 : decode cX12_readWant 122 = .ok (.invokevirtual 272, 3) := by decide +kernel
theorem dX12_readWant_125 : decode cX12_readWant 125 = .ok (.istore_n 3, 1) := by decide +kernel
theorem dX12_readWant_126 : decode cX12_readWant 126 = .ok (.iload_n 3, 1) := by decide +kernel
theorem dX12_readWant_127 : decode cX12_readWant 127 = .ok (.ifCond .ge 9, 3) := by decide +kernel
theorem dX12_readWant_130 : decode cX12_readWant 130 = .ok (.aload_n 0, 1) := by decide +kernel
theorem dX12_readWant_131 : decode cX12_readWant 131 = .ok (.iconst 1, 1) := by decide +kernel
theorem dX12_readWant_132 : decode cX12_readWant 132 = .ok (.invokevirtual 190, 3) := by decide +kernel
theorem dX12_readWant_135 : decode cX12_readWant 135 = .ok (.ireturn, 1) := by decide +kernel
theorem dX12_readWant_136 : decode cX12_readWant 136 = .ok (.aload_n 0, 1) := by decide +kernel
theorem dX12_readWant_137 : decode cX12_readWant 137 = .ok (.getfield 37, 3) := by decide +kernel
theorem dX12_readWant_140 : decode cX12_readWant 140 = .ok (.iload_n 2, 1) := by decide +kernel
theorem dX12_readWant_141 : decode cX12_readWant 141 = .ok (.iconst 2, 1) := by decide +kernel
theorem dX12_readWant_142 : decode cX12_readWant 142 = .ok (.iadd, 1) := by decide +kernel
theorem dX12_readWant_143 : decode cX12_readWant 143 = .ok (.iload_n 3, 1) := by decide +kernel
theorem dX12_readWant_144 : decode cX12_readWant 144 = .ok (.iastore, 1) := by decide +kernel
theorem dX12_readWant_145 : decode cX12_readWant 145 = .ok (.aload_n 0, 1) := by decide +kernel
theorem dX12_readWant_146 : decode cX12_readWant 146 = .ok (.invokevirtual 193, 3) := by decide +kernel
theorem dX12_readWant_149 : decode cX12_readWant 149 = .ok (.goto 36, 3) := by decide +kernel
theorem dX12_readWant_152 : decode cX12_readWant 152 = .ok (.aload_n 0, 1) := by decide +kernel
theorem dX12_readWant_153 : decode cX12_readWant 153 = .ok (.invokevirtual 269, 3) := by decide +kernel
theorem dX12_readWant_156 : decode cX12_readWant 156 = .ok (.ifCond .ne 5, 3) := by decide +kernel
theorem dX12_readWant_159 : decode cX12_readWant 159 = .ok (.iconst 0, 1) := by decide +kernel
theorem dX12_readWant_160 : decode cX12_readWant 160 = .ok (.ireturn, 1) := by decide +kernel
theorem dX12_readWant_161 : decode cX12_readWant 161 = .ok (.aload_n 0, 1) := by decide +kernel
theorem dX12_readWant_162 : decode cX12_readWant 162 = .ok (.getfield 37, 3) := by decide +kernel
theorem dX12_readWant_165 : decode cX12_readWant 165 = .ok (.iload_n 2, 1) := by decide +kernel
theorem dX12_readWant_166 : decode cX12_readWant 166 = .ok (.iconst 2, 1) := by decide +kernel
theorem dX12_readWant_167 : decode cX12_readWant 167 = .ok (.iadd, 1) := by decide +kernel
theorem dX12_readWant_168 : decode cX12_readWant 168 = .ok (.aload_n 0, 1) := by decide +kernel
theorem dX12_readWant_169 : decode cX12_readWant 169 = .ok (.getfield 215, 3) := by decide +kernel
theorem dX12_readWant_172 : decode cX12_readWant 172 = .ok (.iastore, 1) := by decide +kernel
theorem dX12_readWant_173 : decode cX12_readWant 173 = .ok (.aload_n 0, 1) := by decide +kernel
theorem dX12_readWant_174 : decode cX12_readWant 174 = .ok (.getfield 37, 3) := by decide +kernel
theorem dX12_readWant_177 : decode cX12_readWant 177 = .ok (.iload_n 2, 1) := by decide +kernel
theorem dX12_readWant_178 : decode cX12_readWant 178 = .ok (.iconst 3, 1) := by decide +kernel
theorem dX12_readWant_179 : decode cX12_readWant 179 = .ok (.iadd, 1) := by decide +kernel
theorem dX12_readWant_180 : decode cX12_readWant 180 = .ok (.aload_n 0, 1) := by decide +kernel
theorem dX12_readWant_181 : decode cX12_readWant 181 = .ok (.getfield 218, 3) := by decide +kernel
theorem dX12_readWant_184 : decode cX12_readWant 184 = .ok (.iastore, 1) := by decide +kernel
theorem dX12_readWant_185 : decode cX12_readWant 185 = .ok (.aload_n 0, 1) := by decide +kernel
theorem dX12_readWant_186 : decode cX12_readWant 186 = .ok (.iconst 1, 1) := by decide +kernel
theorem dX12_readWant_187 : decode cX12_readWant 187 = .ok (.bipush 99, 2) := by decide +kernel
theorem dX12_readWant_189 : decode cX12_readWant 189 = .ok (.invokevirtual 211, 3) := by decide +kernel
theorem dX12_readWant_192 : decode cX12_readWant 192 = .ok (.ifCond .ne 5, 3) := by decide +kernel
theorem dX12_readWant_195 : decode cX12_readWant 195 = .ok (.iconst 0, 1) := by decide +kernel
theorem dX12_readWant_196 : decode cX12_readWant 196 = .ok (.ireturn, 1) := by decide +kernel
theorem dX12_readWant_197 : decode cX12_readWant 197 = .ok (.aload_n 0, 1) := by decide +kernel
theorem dX12_readWant_198 : decode cX12_readWant 198 = .ok (.getfield 37, 3) := by decide +kernel
theorem dX12_readWant_201 : decode cX12_readWant 201 = .ok (.iload_n 2, 1) := by decide +kernel
theorem dX12_readWant_202 : decode cX12_readWant 202 = .ok (.iconst 4, 1) := by decide +kernel
theorem dX12_readWant_203 : decode cX12_readWant 203 = .ok (.iadd, 1) := by decide +kernel
theorem dX12_readWant_204 : decode cX12_readWant 204 = .ok (.aload_n 0, 1) := by decide +kernel
theorem dX12_readWant_205 : decode cX12_readWant 205 = .ok (.getfield 200, 3) := by decide +kernel
theorem dX12_readWant_208 : decode cX12_readWant 208 = .ok (.iastore, 1) := by decide +kernel
theorem dX12_readWant_209 : decode cX12_readWant 209 = .ok (.aload_n 0, 1) := by decide +kernel
theorem dX12_readWant_210 : decode cX12_readWant 210 = .ok (.getfield 37, 3) := by decide +kernel
theorem dX12_readWant_213 : decode cX12_readWant 213 = .ok (.iconst 5, 1) := by decide +kernel
theorem dX12_readWant_214 : decode cX12_readWant 214 = .ok (.dup2, 1) := by decide +kernel
theorem dX12_readWant_215 : decode cX12_readWant 215 = .ok (.iaload, 1) := by decide +kernel
theorem dX12_readWant_216 : decode cX12_readWant 216 = .ok (.iconst 1, 1) := by decide +kernel
theorem dX12_readWant_217 : decode cX12_readWant 217 = .ok (.iadd, 1) := by decide +kernel
theorem dX12_readWant_218 : decode cX12_readWant 218 = .ok (.iastore, 1) := by decide +kernel
theorem dX12_readWant_219 : decode cX12_readWant 219 = .ok (.iconst 1, 1) := by decide +kernel
theorem dX12_readWant_220 : decode cX12_readWant 220 = .ok (.ireturn, 1) := by decide +kernel
def wb_X12_readWant_185  (h : AH) (al0 : Nat) (xl2 : Int32)  (post : AH → Int32 → Prop) : Prop := (ob h al0 11) ∧ wp_X12_takes h al0 1 99 (fun hv1 iv2 => (¬ iv2 = 0 → ((ob hv1 al0 11) ∧ (∃ rv3, aP hv1 al0 7 = some rv3 ∧ ((ob hv1 al0 11) ∧ ((ob hv1 rv3 13) ∧ ((vp_in (xl2 + (4 : Int32)) (aL hv1 rv3)) ∧ (∀ hv4 : AH, hv4 = hI hv1 rv3 (xl2 + (4 : Int32)).toNatClampNeg (aI hv1 al0 18) → ((ob hv4 al0 11) ∧ (∃ rv5, aP hv4 al0 7 = some rv5 ∧ ((ob hv4 rv5 13) ∧ ((vp_in 5 (aL hv4 rv5)) ∧ ((ob hv4 rv5 13) ∧ ((vp_in 5 (aL hv4 rv5)) ∧ (∀ hv6 : AH, hv6 = hI hv4 rv5 (5 : Int32).toNatClampNeg ((aI hv4 rv5 (5 : Int32).toNatClampNeg) + (1 : Int32)) → (((1 : Int32) = 0 ∨ (1 : Int32) = 1) ∧ post hv6 1))))))))))))))) ∧ (iv2 = 0 → (((0 : Int32) = 0 ∨ (0 : Int32) = 1) ∧ post hv1 0)))
set_option maxRecDepth 100000 in
theorem tb_X12_readWant_185 {G : GG} {p : Program} {l : Launch} {e : Env} {R : Room} {s : State} {m : MethodId} {args : Array Value} {below : List Frame} {meth : Method} {c : Code} {n0 s0 : Nat} {post : AH → Int32 → Prop} (C : Cx G p R s m args meth c 4 cX12_readWant RX12 n0 s0 4 85) (hr : meth.sig.returnType = (some .boolean))   {h : AH} {al0 : Nat} {xl2 : Int32}  (hw : wb_X12_readWant_185  h al0 xl2 post) : AW G p l e R s m args below meth c 4 (QM G (pI post) args s below n0 s0) 185 [(0, .ref (G.1 + al0)), (2, .int xl2)] [] h := by
  unfold wb_X12_readWant_185 at hw
  refine r_aload_n C dX12_readWant_185 0 rfl ?_
  refine r_iconst (v := 1) C dX12_readWant_186 (by decide) ?_
  refine r_bipush (v := 99) C dX12_readWant_187 (by decide) ?_
  have hob := hw.1
  replace hw := hw.2
  refine r_callV C (As := [.int 1, .int 99]) (rest := []) (c_X12_takes G h al0 1 99 _ hw) yl_X12_takes (gm7 (List.mem_of_getElem? (i := 195) rfl) rfl) (gm7 (List.mem_of_getElem? (i := 197) rfl) rfl) (ci := 11) rfl (by decide) (gsel (List.mem_of_getElem? (i := 49) rfl)) hob (by decide) rfl (Nat.le_of_ble_eq_true rfl) dX12_readWant_189 rfl (kI fun hv1 iv2 hw => ?_)
  refine r_if_ne C dX12_readWant_192 197 (by decide) (fun hc => ?_) (fun hc => ?_)
  · replace hw := hw.1 hc
    refine r_aload_n C dX12_readWant_197 0 rfl ?_
    have hob := hw.1
    obtain ⟨rv3, hp, hw⟩ := hw.2
    refine r_getP C fl_RX12_37_11 hob hp (fun _ _ _ => rfl) dX12_readWant_198 ?_
    refine r_iload_n C dX12_readWant_201 1 rfl ?_
    refine r_iconst (v := 4) C dX12_readWant_202 (by decide) ?_
    refine r_iadd C dX12_readWant_203 ?_
    refine r_aload_n C dX12_readWant_204 0 rfl ?_
    refine r_getI C fl_RX12_200_11 hw.1 (fun _ _ _ => rfl) dX12_readWant_205 ?_
    replace hw := hw.2
    refine r_iastore C hw.1 hw.2.1 dX12_readWant_208 ?_
    replace hw := hw.2.2
    refine r_toph fun hv4 ehv4 => ?_
    replace hw := hw hv4 ehv4
    refine r_aload_n C dX12_readWant_209 0 rfl ?_
    have hob := hw.1
    obtain ⟨rv5, hp, hw⟩ := hw.2
    refine r_getP C fl_RX12_37_11 hob hp (fun _ _ _ => rfl) dX12_readWant_210 ?_
    refine r_iconst (v := 5) C dX12_readWant_213 (by decide) ?_
    refine r_dup2 C dX12_readWant_214 rfl rfl ?_
    refine r_iaload C hw.1 hw.2.1 dX12_readWant_215 ?_
    replace hw := hw.2.2
    refine r_iconst (v := 1) C dX12_readWant_216 (by decide) ?_
    refine r_iadd C dX12_readWant_217 ?_
    refine r_iastore C hw.1 hw.2.1 dX12_readWant_218 ?_
    replace hw := hw.2.2
    refine r_toph fun hv6 ehv6 => ?_
    replace hw := hw hv6 ehv6
    refine r_iconst (v := 1) C dX12_readWant_219 (by decide) ?_
    exact r_zret C hr dX12_readWant_220 hw.1 hw.2
  · replace hw := hw.2 hc
    refine r_iconst (v := 0) C dX12_readWant_195 (by decide) ?_
    exact r_zret C hr dX12_readWant_196 hw.1 hw.2
set_option maxRecDepth 100000 in
def wp_X12_readWant (h : AH) (a0 : Nat) (x1 : Int32) (post : AH → Int32 → Prop) : Prop := (ob h a0 11) ∧ (∃ rv1, aP h a0 7 = some rv1 ∧ ((ob h rv1 13) ∧ ((vp_in 5 (aL h rv1)) ∧ ((¬ (aI h rv1 (5 : Int32).toNatClampNeg) = 10 → ((ob h a0 11) ∧ wp_X12_next h a0  (fun hv2  => (ob hv2 a0 11) ∧ (∃ rv3, aP hv2 a0 7 = some rv3 ∧ ((ob hv2 rv3 13) ∧ ((vp_in 5 (aL hv2 rv3)) ∧ (∀ iv4 : Int32, iv4 = (175 : Int32) + ((5 : Int32) * (aI hv2 rv3 (5 : Int32).toNatClampNeg)) → ((ob hv2 a0 11) ∧ (∃ rv5, aP hv2 a0 7 = some rv5 ∧ ((ob hv2 rv5 13) ∧ ((vp_in iv4 (aL hv2 rv5)) ∧ (∀ hv6 : AH, hv6 = hI hv2 rv5 iv4.toNatClampNeg x1 → ((ob hv6 a0 11) ∧ (∃ rv7, aP hv6 a0 7 = some rv7 ∧ ((ob hv6 rv7 13) ∧ ((vp_in 2 (aL hv6 rv7)) ∧ ((ob hv6 a0 11) ∧ wp_X12_takesRaft hv6 a0 8 (aI hv6 rv7 (2 : Int32).toNatClampNeg) (-1) (fun hv8 iv9 => (¬ iv9 = 0 → ((ob hv8 a0 11) ∧ (∃ rv10, aP hv8 a0 7 = some rv10 ∧ ((ob hv8 a0 11) ∧ ((ob hv8 rv10 13) ∧ ((vp_in (iv4 + (1 : Int32)) (aL hv8 rv10)) ∧ (∀ hv11 : AH, hv11 = hI hv8 rv10 (iv4 + (1 : Int32)).toNatClampNeg (aI hv8 a0 18) → ((2 ≤ x1 → ((¬ x1 = 2 → ((ob hv11 a0 11) ∧ wp_X12_takesCell hv11 a0  (fun hv12 iv13 => (¬ iv13 = 0 → ((ob hv12 a0 11) ∧ (∃ rv14, aP hv12 a0 7 = some rv14 ∧ ((ob hv12 a0 11) ∧ ((ob hv12 rv14 13) ∧ ((vp_in (iv4 + (2 : Int32)) (aL hv12 rv14)) ∧ (∀ hv15 : AH, hv15 = hI hv12 rv14 (iv4 + (2 : Int32)).toNatClampNeg (aI hv12 a0 19) → ((ob hv15 a0 11) ∧ (∃ rv16, aP hv15 a0 7 = some rv16 ∧ ((ob hv15 a0 11) ∧ ((ob hv15 rv16 13) ∧ ((vp_in (iv4 + (3 : Int32)) (aL hv15 rv16)) ∧ (∀ hv17 : AH, hv17 = hI hv15 rv16 (iv4 + (3 : Int32)).toNatClampNeg (aI hv15 a0 20) → (wb_X12_readWant_185  hv17 a0 iv4 post)))))))))))))) ∧ (iv13 = 0 → (((0 : Int32) = 0 ∨ (0 : Int32) = 1) ∧ post hv12 0))))) ∧ (x1 = 2 → ((ob hv11 a0 11) ∧ wp_X12_side hv11 a0  (fun hv18 iv19 => (0 ≤ iv19 → ((ob hv18 a0 11) ∧ (∃ rv20, aP hv18 a0 7 = some rv20 ∧ ((ob hv18 rv20 13) ∧ ((vp_in (iv4 + (2 : Int32)) (aL hv18 rv20)) ∧ (∀ hv21 : AH, hv21 = hI hv18 rv20 (iv4 + (2 : Int32)).toNatClampNeg iv19 → ((ob hv21 a0 11) ∧ wp_X12_next hv21 a0  (fun hv22  => wb_X12_readWant_185  hv22 a0 iv4 post)))))))) ∧ (¬ 0 ≤ iv19 → ((ob hv18 a0 11) ∧ wp_X12_bad hv18 a0 1 (fun hv23 iv24 => (iv24 = 0 ∨ iv24 = 1) ∧ post hv23 iv24)))))))) ∧ (¬ 2 ≤ x1 → ((ob hv11 a0 11) ∧ (∃ rv25, aP hv11 a0 7 = some rv25 ∧ ((ob hv11 rv25 13) ∧ ((vp_in 2 (aL hv11 rv25)) ∧ ((ob hv11 a0 11) ∧ (∃ rv26, aP hv11 a0 7 = some rv26 ∧ ((ob hv11 rv26 13) ∧ ((vp_in (iv4 + (1 : Int32)) (aL hv11 rv26)) ∧ ((ob hv11 a0 11) ∧ wp_X12_takesRaft hv11 a0 8 (aI hv11 rv25 (2 : Int32).toNatClampNeg) (aI hv11 rv26 (iv4 + (1 : Int32)).toNatClampNeg) (fun hv27 iv28 => (¬ iv28 = 0 → ((ob hv27 a0 11) ∧ (∃ rv29, aP hv27 a0 7 = some rv29 ∧ ((ob hv27 a0 11) ∧ ((ob hv27 rv29 13) ∧ ((vp_in (iv4 + (2 : Int32)) (aL hv27 rv29)) ∧ (∀ hv30 : AH, hv30 = hI hv27 rv29 (iv4 + (2 : Int32)).toNatClampNeg (aI hv27 a0 18) → (wb_X12_readWant_185  hv30 a0 iv4 post)))))))) ∧ (iv28 = 0 → (((0 : Int32) = 0 ∨ (0 : Int32) = 1) ∧ post hv27 0))))))))))))))))))))) ∧ (iv9 = 0 → (((0 : Int32) = 0 ∨ (0 : Int32) = 1) ∧ post hv8 0)))))))))))))))))))) ∧ ((aI h rv1 (5 : Int32).toNatClampNeg) = 10 → ((ob h a0 11) ∧ wp_X12_bad h a0 4 (fun hv31 iv32 => (iv32 = 0 ∨ iv32 = 1) ∧ post hv31 iv32)))))))
set_option maxRecDepth 100000 in
theorem c_X12_readWant (G : GG) (h : AH) (a0 : Nat) (x1 : Int32) (post : AH → Int32 → Prop) (hw : wp_X12_readWant h a0 x1 post) : MC G yX12_readWant cX12_readWant 4 (some .boolean) 4 85 h [.ref (G.1 + a0), .int x1] (pI post) := by
  refine MC.of (lv := [(0, .ref (G.1 + a0)), (1, .int x1)]) (by decide) (Nat.le_of_ble_eq_true rfl) rfl fun p l e R s m args below meth c C hr hnm => ?_
  unfold wp_X12_readWant at hw
  refine r_aload_n C dX12_readWant_0 0 rfl ?_
  have hob := hw.1
  obtain ⟨rv1, hp, hw⟩ := hw.2
  refine r_getP C fl_RX12_37_11 hob hp (fun _ _ _ => rfl) dX12_readWant_1 ?_
  refine r_iconst (v := 5) C dX12_readWant_4 (by decide) ?_
  refine r_iaload C hw.1 hw.2.1 dX12_readWant_5 ?_
  replace hw := hw.2.2
  refine r_bipush (v := 10) C dX12_readWant_6 (by decide) ?_
  refine r_icmp_ne C dX12_readWant_8 17 (by decide) (fun hc => ?_) (fun hc => ?_)
  · replace hw := hw.1 hc
    refine r_aload_n C dX12_readWant_17 0 rfl ?_
    have hob := hw.1
    replace hw := hw.2
    refine r_callV C (As := []) (rest := []) (c_X12_next G h a0  _ hw) yl_X12_next (gm7 (List.mem_of_getElem? (i := 151) rfl) rfl) (gm7 (List.mem_of_getElem? (i := 153) rfl) rfl) (ci := 11) rfl (by decide) (gsel (List.mem_of_getElem? (i := 41) rfl)) hob (by decide) rfl (Nat.le_of_ble_eq_true rfl) dX12_readWant_18 rfl (kV fun hv2  hw => ?_)
    refine r_sipush (v := 175) C dX12_readWant_21 (by decide) ?_
    refine r_iconst (v := 5) C dX12_readWant_24 (by decide) ?_
    refine r_aload_n C dX12_readWant_25 0 rfl ?_
    have hob := hw.1
    obtain ⟨rv3, hp, hw⟩ := hw.2
    refine r_getP C fl_RX12_37_11 hob hp (fun _ _ _ => rfl) dX12_readWant_26 ?_
    refine r_iconst (v := 5) C dX12_readWant_29 (by decide) ?_
    refine r_iaload C hw.1 hw.2.1 dX12_readWant_30 ?_
    replace hw := hw.2.2
    refine r_imul C dX12_readWant_31 ?_
    refine r_iadd C dX12_readWant_32 ?_
    refine r_topi fun iv4 eiv4 => ?_
    replace hw := hw iv4 eiv4
    refine r_istore_n C dX12_readWant_33 [(2, .int iv4), (0, .ref (G.1 + a0)), (1, .int x1)] (by decide) rfl ?_
    refine r_aload_n C dX12_readWant_34 1 rfl ?_
    have hob := hw.1
    obtain ⟨rv5, hp, hw⟩ := hw.2
    refine r_getP C fl_RX12_37_11 hob hp (fun _ _ _ => rfl) dX12_readWant_35 ?_
    refine r_iload_n C dX12_readWant_38 0 rfl ?_
    refine r_iload_n C dX12_readWant_39 2 rfl ?_
    refine r_iastore C hw.1 hw.2.1 dX12_readWant_40 ?_
    replace hw := hw.2.2
    refine r_toph fun hv6 ehv6 => ?_
    replace hw := hw hv6 ehv6
    refine r_aload_n C dX12_readWant_41 1 rfl ?_
    refine r_bipush (v := 8) C dX12_readWant_42 (by decide) ?_
    refine r_aload_n C dX12_readWant_44 1 rfl ?_
    have hob := hw.1
    obtain ⟨rv7, hp, hw⟩ := hw.2
    refine r_getP C fl_RX12_37_11 hob hp (fun _ _ _ => rfl) dX12_readWant_45 ?_
    refine r_iconst (v := 2) C dX12_readWant_48 (by decide) ?_
    refine r_iaload C hw.1 hw.2.1 dX12_readWant_49 ?_
    replace hw := hw.2.2
    refine r_iconst (v := (-1)) C dX12_readWant_50 (by decide) ?_
    have hob := hw.1
    replace hw := hw.2
    refine r_callV C (As := [.int 8, .int (aI hv6 rv7 (2 : Int32).toNatClampNeg), .int (-1)]) (rest := []) (c_X12_takesRaft G hv6 a0 8 (aI hv6 rv7 (2 : Int32).toNatClampNeg) (-1) _ hw) yl_X12_takesRaft (gm7 (List.mem_of_getElem? (i := 219) rfl) rfl) (gm7 (List.mem_of_getElem? (i := 221) rfl) rfl) (ci := 11) rfl (by decide) (gsel (List.mem_of_getElem? (i := 55) rfl)) hob (by decide) rfl (Nat.le_of_ble_eq_true rfl) dX12_readWant_51 rfl (kI fun hv8 iv9 hw => ?_)
    refine r_if_ne C dX12_readWant_54 59 (by decide) (fun hc => ?_) (fun hc => ?_)
    · replace hw := hw.1 hc
      refine r_aload_n C dX12_readWant_59 1 rfl ?_
      have hob := hw.1
      obtain ⟨rv10, hp, hw⟩ := hw.2
      refine r_getP C fl_RX12_37_11 hob hp (fun _ _ _ => rfl) dX12_readWant_60 ?_
      refine r_iload_n C dX12_readWant_63 0 rfl ?_
      refine r_iconst (v := 1) C dX12_readWant_64 (by decide) ?_
      refine r_iadd C dX12_readWant_65 ?_
      refine r_aload_n C dX12_readWant_66 1 rfl ?_
      refine r_getI C fl_RX12_200_11 hw.1 (fun _ _ _ => rfl) dX12_readWant_67 ?_
      replace hw := hw.2
      refine r_iastore C hw.1 hw.2.1 dX12_readWant_70 ?_
      replace hw := hw.2.2
      refine r_toph fun hv11 ehv11 => ?_
      replace hw := hw hv11 ehv11
      refine r_iload_n C dX12_readWant_71 2 rfl ?_
      refine r_iconst (v := 2) C dX12_readWant_72 (by decide) ?_
      refine r_icmp_ge C dX12_readWant_73 116 (by decide) (fun hc => ?_) (fun hc => ?_)
      · replace hw := hw.1 hc
        refine r_iload_n C dX12_readWant_116 2 rfl ?_
        refine r_iconst (v := 2) C dX12_readWant_117 (by decide) ?_
        refine r_icmp_ne C dX12_readWant_118 152 (by decide) (fun hc => ?_) (fun hc => ?_)
        · replace hw := hw.1 hc
          refine r_aload_n C dX12_readWant_152 1 rfl ?_
          have hob := hw.1
          replace hw := hw.2
          refine r_callV C (As := []) (rest := []) (c_X12_takesCell G hv11 a0  _ hw) yl_X12_takesCell (gm8 (List.mem_of_getElem? (i := 6) rfl) rfl) (gm8 (List.mem_of_getElem? (i := 8) rfl) rfl) (ci := 11) rfl (by decide) (gsel (List.mem_of_getElem? (i := 61) rfl)) hob (by decide) rfl (Nat.le_of_ble_eq_true rfl) dX12_readWant_153 rfl (kI fun hv12 iv13 hw => ?_)
          refine r_if_ne C dX12_readWant_156 161 (by decide) (fun hc => ?_) (fun hc => ?_)
          · replace hw := hw.1 hc
            refine r_aload_n C dX12_readWant_161 1 rfl ?_
            have hob := hw.1
            obtain ⟨rv14, hp, hw⟩ := hw.2
            refine r_getP C fl_RX12_37_11 hob hp (fun _ _ _ => rfl) dX12_readWant_162 ?_
            refine r_iload_n C dX12_readWant_165 0 rfl ?_
            refine r_iconst (v := 2) C dX12_readWant_166 (by decide) ?_
            refine r_iadd C dX12_readWant_167 ?_
            refine r_aload_n C dX12_readWant_168 1 rfl ?_
            refine r_getI C fl_RX12_215_11 hw.1 (fun _ _ _ => rfl) dX12_readWant_169 ?_
            replace hw := hw.2
            refine r_iastore C hw.1 hw.2.1 dX12_readWant_172 ?_
            replace hw := hw.2.2
            refine r_toph fun hv15 ehv15 => ?_
            replace hw := hw hv15 ehv15
            refine r_aload_n C dX12_readWant_173 1 rfl ?_
            have hob := hw.1
            obtain ⟨rv16, hp, hw⟩ := hw.2
            refine r_getP C fl_RX12_37_11 hob hp (fun _ _ _ => rfl) dX12_readWant_174 ?_
            refine r_iload_n C dX12_readWant_177 0 rfl ?_
            refine r_iconst (v := 3) C dX12_readWant_178 (by decide) ?_
            refine r_iadd C dX12_readWant_179 ?_
            refine r_aload_n C dX12_readWant_180 1 rfl ?_
            refine r_getI C fl_RX12_218_11 hw.1 (fun _ _ _ => rfl) dX12_readWant_181 ?_
            replace hw := hw.2
            refine r_iastore C hw.1 hw.2.1 dX12_readWant_184 ?_
            replace hw := hw.2.2
            refine r_toph fun hv17 ehv17 => ?_
            replace hw := hw hv17 ehv17
            refine r_sub [1, 0] rfl ?_
            exact tb_X12_readWant_185 C hr  hw
          · replace hw := hw.2 hc
            refine r_iconst (v := 0) C dX12_readWant_159 (by decide) ?_
            exact r_zret C hr dX12_readWant_160 hw.1 hw.2
        · replace hw := hw.2 hc
          refine r_aload_n C dX12_readWant_121 1 rfl ?_
          have hob := hw.1
          replace hw := hw.2
          refine r_callV C (As := []) (rest := []) (c_X12_side G hv11 a0  _ hw) yl_X12_side (gm8 (List.mem_of_getElem? (i := 14) rfl) rfl) (gm8 (List.mem_of_getElem? (i := 16) rfl) rfl) (ci := 11) rfl (by decide) (gsel (List.mem_of_getElem? (i := 63) rfl)) hob (by decide) rfl (Nat.le_of_ble_eq_true rfl) dX12_readWant_122 rfl (kI fun hv18 iv19 hw => ?_)
          refine r_istore_n C dX12_readWant_125 [(3, .int iv19), (2, .int iv4), (0, .ref (G.1 + a0)), (1, .int x1)] (by decide) rfl ?_
          refine r_iload_n C dX12_readWant_126 0 rfl ?_
          refine r_if_ge C dX12_readWant_127 136 (by decide) (fun hc => ?_) (fun hc => ?_)
          · replace hw := hw.1 hc
            refine r_aload_n C dX12_readWant_136 2 rfl ?_
            have hob := hw.1
            obtain ⟨rv20, hp, hw⟩ := hw.2
            refine r_getP C fl_RX12_37_11 hob hp (fun _ _ _ => rfl) dX12_readWant_137 ?_
            refine r_iload_n C dX12_readWant_140 1 rfl ?_
            refine r_iconst (v := 2) C dX12_readWant_141 (by decide) ?_
            refine r_iadd C dX12_readWant_142 ?_
            refine r_iload_n C dX12_readWant_143 0 rfl ?_
            refine r_iastore C hw.1 hw.2.1 dX12_readWant_144 ?_
            replace hw := hw.2.2
            refine r_toph fun hv21 ehv21 => ?_
            replace hw := hw hv21 ehv21
            refine r_aload_n C dX12_readWant_145 2 rfl ?_
            have hob := hw.1
            replace hw := hw.2
            refine r_callV C (As := []) (rest := []) (c_X12_next G hv21 a0  _ hw) yl_X12_next (gm7 (List.mem_of_getElem? (i := 151) rfl) rfl) (gm7 (List.mem_of_getElem? (i := 153) rfl) rfl) (ci := 11) rfl (by decide) (gsel (List.mem_of_getElem? (i := 41) rfl)) hob (by decide) rfl (Nat.le_of_ble_eq_true rfl) dX12_readWant_146 rfl (kV fun hv22  hw => ?_)
            refine r_goto C dX12_readWant_149 185 (by decide) ?_
            refine r_sub [2, 1] rfl ?_
            exact tb_X12_readWant_185 C hr  hw
          · replace hw := hw.2 hc
            refine r_aload_n C dX12_readWant_130 2 rfl ?_
            refine r_iconst (v := 1) C dX12_readWant_131 (by decide) ?_
            have hob := hw.1
            replace hw := hw.2
            refine r_callV C (As := [.int 1]) (rest := []) (c_X12_bad G hv18 a0 1 _ hw) yl_X12_bad (gm7 (List.mem_of_getElem? (i := 177) rfl) rfl) (gm7 (List.mem_of_getElem? (i := 179) rfl) rfl) (ci := 11) rfl (by decide) (gsel (List.mem_of_getElem? (i := 46) rfl)) hob (by decide) rfl (Nat.le_of_ble_eq_true rfl) dX12_readWant_132 rfl (kI fun hv23 iv24 hw => ?_)
            exact r_zret C hr dX12_readWant_135 hw.1 hw.2
      · replace hw := hw.2 hc
        refine r_aload_n C dX12_readWant_76 1 rfl ?_
        refine r_bipush (v := 8) C dX12_readWant_77 (by decide) ?_
        refine r_aload_n C dX12_readWant_79 1 rfl ?_
        have hob := hw.1
        obtain ⟨rv25, hp, hw⟩ := hw.2
        refine r_getP C fl_RX12_37_11 hob hp (fun _ _ _ => rfl) dX12_readWant_80 ?_
        refine r_iconst (v := 2) C dX12_readWant_83 (by decide) ?_
        refine r_iaload C hw.1 hw.2.1 dX12_readWant_84 ?_
        replace hw := hw.2.2
        refine r_aload_n C dX12_readWant_85 1 rfl ?_
        have hob := hw.1
        obtain ⟨rv26, hp, hw⟩ := hw.2
        refine r_getP C fl_RX12_37_11 hob hp (fun _ _ _ => rfl) dX12_readWant_86 ?_
        refine r_iload_n C dX12_readWant_89 0 rfl ?_
        refine r_iconst (v := 1) C dX12_readWant_90 (by decide) ?_
        refine r_iadd C dX12_readWant_91 ?_
        refine r_iaload C hw.1 hw.2.1 dX12_readWant_92 ?_
        replace hw := hw.2.2
        have hob := hw.1
        replace hw := hw.2
        refine r_callV C (As := [.int 8, .int (aI hv11 rv25 (2 : Int32).toNatClampNeg), .int (aI hv11 rv26 (iv4 + (1 : Int32)).toNatClampNeg)]) (rest := []) (c_X12_takesRaft G hv11 a0 8 (aI hv11 rv25 (2 : Int32).toNatClampNeg) (aI hv11 rv26 (iv4 + (1 : Int32)).toNatClampNeg) _ hw) yl_X12_takesRaft (gm7 (List.mem_of_getElem? (i := 219) rfl) rfl) (gm7 (List.mem_of_getElem? (i := 221) rfl) rfl) (ci := 11) rfl (by decide) (gsel (List.mem_of_getElem? (i := 55) rfl)) hob (by decide) rfl (Nat.le_of_ble_eq_true rfl) dX12_readWant_93 rfl (kI fun hv27 iv28 hw => ?_)
        refine r_if_ne C dX12_readWant_96 101 (by decide) (fun hc => ?_) (fun hc => ?_)
        · replace hw := hw.1 hc
          refine r_aload_n C dX12_readWant_101 1 rfl ?_
          have hob := hw.1
          obtain ⟨rv29, hp, hw⟩ := hw.2
          refine r_getP C fl_RX12_37_11 hob hp (fun _ _ _ => rfl) dX12_readWant_102 ?_
          refine r_iload_n C dX12_readWant_105 0 rfl ?_
          refine r_iconst (v := 2) C dX12_readWant_106 (by decide) ?_
          refine r_iadd C dX12_readWant_107 ?_
          refine r_aload_n C dX12_readWant_108 1 rfl ?_
          refine r_getI C fl_RX12_200_11 hw.1 (fun _ _ _ => rfl) dX12_readWant_109 ?_
          replace hw := hw.2
          refine r_iastore C hw.1 hw.2.1 dX12_readWant_112 ?_
          replace hw := hw.2.2
          refine r_toph fun hv30 ehv30 => ?_
          replace hw := hw hv30 ehv30
          refine r_goto C dX12_readWant_113 185 (by decide) ?_
          refine r_sub [1, 0] rfl ?_
          exact tb_X12_readWant_185 C hr  hw
        · replace hw := hw.2 hc
          refine r_iconst (v := 0) C dX12_readWant_99 (by decide) ?_
          exact r_zret C hr dX12_readWant_100 hw.1 hw.2
    · replace hw := hw.2 hc
      refine r_iconst (v := 0) C dX12_readWant_57 (by decide) ?_
      exact r_zret C hr dX12_readWant_58 hw.1 hw.2
  · replace hw := hw.2 hc
    refine r_aload_n C dX12_readWant_11 0 rfl ?_
    refine r_iconst (v := 4) C dX12_readWant_12 (by decide) ?_
    have hob := hw.1
    replace hw := hw.2
    refine r_callV C (As := [.int 4]) (rest := []) (c_X12_bad G h a0 4 _ hw) yl_X12_bad (gm7 (List.mem_of_getElem? (i := 177) rfl) rfl) (gm7 (List.mem_of_getElem? (i := 179) rfl) rfl) (ci := 11) rfl (by decide) (gsel (List.mem_of_getElem? (i := 46) rfl)) hob (by decide) rfl (Nat.le_of_ble_eq_true rfl) dX12_readWant_13 rfl (kI fun hv31 iv32 hw => ?_)
    exact r_zret C hr dX12_readWant_16 hw.1 hw.2
theorem dX12_line_0 : decode cX12_line 0 = .ok (.aload_n 0, 1) := by decide +kernel
theorem dX12_line_1 : decode cX12_line 1 = .ok (.ldc2_w 115, 3) := by decide +kernel
theorem dX12_line_4 : decode cX12_line 4 = .ok (.invokevirtual 221, 3) := by decide +kernel
theorem dX12_line_7 : decode cX12_line 7 = .ok (.ifCond .eq 8, 3) := by decide +kernel
theorem dX12_line_10 : decode cX12_line 10 = .ok (.aload_n 0, 1) := by decide +kernel
theorem dX12_line_11 : decode cX12_line 11 = .ok (.invokevirtual 225, 3) := by decide +kernel
theorem dX12_line_14 : decode cX12_line 14 = .ok (.ireturn, 1) := by decide +kernel
theorem dX12_line_15 : decode cX12_line 15 = .ok (.aload_n 0, 1) := by decide +kernel
theorem dX12_line_16 : decode cX12_line 16 = .ok (.ldc2_w 117, 3) := by decide +kernel
theorem dX12_line_19 : decode cX12_line 19 = .ok (.invokevirtual 221, 3) := by decide +kernel
theorem dX12_line_22 : decode cX12_line 22 = .ok (.ifCond .eq 8, 3) := by decide +kernel
theorem dX12_line_25 : decode cX12_line 25 = .ok (.aload_n 0, 1) := by decide +kernel
theorem dX12_line_26 : decode cX12_line 26 = .ok (.invokevirtual 228, 3) := by decide +kernel
theorem dX12_line_29 : decode cX12_line 29 = .ok (.ireturn, 1) := by decide +kernel
theorem dX12_line_30 : decode cX12_line 30 = .ok (.aload_n 0, 1) := by decide +kernel
theorem dX12_line_31 : decode cX12_line 31 = .ok (.ldc2_w 119, 3) := by decide +kernel
theorem dX12_line_34 : decode cX12_line 34 = .ok (.invokevirtual 221, 3) := by decide +kernel
theorem dX12_line_37 : decode cX12_line 37 = .ok (.ifCond .eq 8, 3) := by decide +kernel
theorem dX12_line_40 : decode cX12_line 40 = .ok (.aload_n 0, 1) := by decide +kernel
theorem dX12_line_41 : decode cX12_line 41 = .ok (.invokevirtual 231, 3) := by decide +kernel
theorem dX12_line_44 : decode cX12_line 44 = .ok (.ireturn, 1) := by decide +kernel
theorem dX12_line_45 : decode cX12_line 45 = .ok (.aload_n 0, 1) := by decide +kernel
theorem dX12_line_46 : decode cX12_line 46 = .ok (.ldc2_w 121, 3) := by decide +kernel
theorem dX12_line_49 : decode cX12_line 49 = .ok (.invokevirtual 221, 3) := by decide +kernel
theorem dX12_line_52 : decode cX12_line 52 = .ok (.ifCond .eq 8, 3) := by decide +kernel
theorem dX12_line_55 : decode cX12_line 55 = .ok (.aload_n 0, 1) := by decide +kernel
theorem dX12_line_56 : decode cX12_line 56 = .ok (.invokevirtual 234, 3) := by decide +kernel
theorem dX12_line_59 : decode cX12_line 59 = .ok (.ireturn, 1) := by decide +kernel
theorem dX12_line_60 : decode cX12_line 60 = .ok (.aload_n 0, 1) := by decide +kernel
theorem dX12_line_61 : decode cX12_line 61 = .ok (.ldc2_w 123, 3) := by decide +kernel
theorem dX12_line_64 : decode cX12_line 64 = .ok (.invokevirtual 221, 3) := by decide +kernel
theorem dX12_line_67 : decode cX12_line 67 = .ok (.ifCond .eq 8, 3) := by decide +kernel
theorem dX12_line_70 : decode cX12_line 70 = .ok (.aload_n 0, 1) := by decide +kernel
theorem dX12_line_71 : decode cX12_line 71 = .ok (.invokevirtual 237, 3) := by decide +kernel
theorem dX12_line_74 : decode cX12_line 74 = .ok (.ireturn, 1) := by decide +kernel
theorem dX12_line_75 : decode cX12_line 75 = .ok (.aload_n 0, 1) := by decide +kernel
theorem dX12_line_76 : decode cX12_line 76 = .ok (.ldc2_w 125, 3) := by decide +kernel
theorem dX12_line_79 : decode cX12_line 79 = .ok (.invokevirtual 221, 3) := by decide +kernel
theorem dX12_line_82 : decode cX12_line 82 = .ok (.ifCond .eq 8, 3) := by decide +kernel
theorem dX12_line_85 : decode cX12_line 85 = .ok (.aload_n 0, 1) := by decide +kernel
theorem dX12_line_86 : decode cX12_line 86 = .ok (.invokevirtual 240, 3) := by decide +kernel
theorem dX12_line_89 : decode cX12_line 89 = .ok (.ireturn, 1) := by decide +kernel
theorem dX12_line_90 : decode cX12_line 90 = .ok (.aload_n 0, 1) := by decide +kernel
theorem dX12_line_91 : decode cX12_line 91 = .ok (.ldc2_w 127, 3) := by decide +kernel
theorem dX12_line_94 : decode cX12_line 94 = .ok (.invokevirtual 221, 3) := by decide +kernel
theorem dX12_line_97 : decode cX12_line 97 = .ok (.ifCond .eq 8, 3) := by decide +kernel
theorem dX12_line_100 : decode cX12_line 100 = .ok (.aload_n 0, 1) := by decide +kernel
theorem dX12_line_101 : decode cX12_line 101 = .ok (.invokevirtual 243, 3) := by decide +kernel
theorem dX12_line_104 : decode cX12_line 104 = .ok (.ireturn, 1) := by decide +kernel
theorem dX12_line_105 : decode cX12_line 105 = .ok (.aload_n 0, 1) := by decide +kernel
theorem dX12_line_106 : decode cX12_line 106 = .ok (.ldc2_w 129, 3) := by decide +kernel
theorem dX12_line_109 : decode cX12_line 109 = .ok (.invokevirtual 221, 3) := by decide +kernel
theorem dX12_line_112 : decode cX12_line 112 = .ok (.ifCond .eq 9, 3) := by decide +kernel
theorem dX12_line_115 : decode cX12_line 115 = .ok (.aload_n 0, 1) := by decide +kernel
theorem dX12_line_116 : decode cX12_line 116 = .ok (.iconst 0, 1) := by decide +kernel
theorem dX12_line_117 : decode cX12_line 117 = .ok (.invokevirtual 246, 3) := by decide +kernel
theorem dX12_line_120 : decode cX12_line 120 = .ok (.ireturn, 1) := by decide +kernel
theorem dX12_line_121 : decode cX12_line 121 = .ok (.aload_n 0, 1) := by decide +kernel
theorem dX12_line_122 : decode cX12_line 122 = .ok (.ldc2_w 131, 3) := by decide +kernel
theorem dX12_line_125 : decode cX12_line 125 = .ok (.invokevirtual 221, 3) := by decide +kernel
theorem dX12_line_128 : decode cX12_line 128 = .ok (.ifCond .eq 9, 3) := by decide +kernel
theorem dX12_line_131 : decode cX12_line 131 = .ok (.aload_n 0, 1) := by decide +kernel
theorem dX12_line_132 : decode cX12_line 132 = .ok (.iconst 1, 1) := by decide +kernel
theorem dX12_line_133 : decode cX12_line 133 = .ok (.invokevirtual 246, 3) := by decide +kernel
theorem dX12_line_136 : decode cX12_line 136 = .ok (.ireturn, 1) := by decide +kernel
theorem dX12_line_137 : decode cX12_line 137 = .ok (.aload_n 0, 1) := by decide +kernel
theorem dX12_line_138 : decode cX12_line 138 = .ok (.ldc2_w 133, 3) := by decide +kernel
theorem dX12_line_141 : decode cX12_line 141 = .ok (.invokevirtual 221, 3) := by decide +kernel
theorem dX12_line_144 : decode cX12_line 144 = .ok (.ifCond .eq 9, 3) := by decide +kernel
theorem dX12_line_147 : decode cX12_line 147 = .ok (.aload_n 0, 1) := by decide +kernel
theorem dX12_line_148 : decode cX12_line 148 = .ok (.iconst 2, 1) := by decide +kernel
theorem dX12_line_149 : decode cX12_line 149 = .ok (.invokevirtual 246, 3) := by decide +kernel
theorem dX12_line_152 : decode cX12_line 152 = .ok (.ireturn, 1) := by decide +kernel
theorem dX12_line_153 : decode cX12_line 153 = .ok (.aload_n 0, 1) := by decide +kernel
theorem dX12_line_154 : decode cX12_line 154 = .ok (.ldc2_w 135, 3) := by decide +kernel
theorem dX12_line_157 : decode cX12_line 157 = .ok (.invokevirtual 221, 3) := by decide +kernel
theorem dX12_line_160 : decode cX12_line 160 = .ok (.ifCond .eq 11, 3) := by decide +kernel
theorem dX12_line_163 : decode cX12_line 163 = .ok (.aload_n 0, 1) := by decide +kernel
theorem dX12_line_164 : decode cX12_line 164 = .ok (.iconst 3, 1) := by decide +kernel
theorem dX12_line_165 : decode cX12_line 165 = .ok (.invokevirtual 246, 3) := by decide +kernel
theorem dX12_line_168 : decode cX12_line 168 = .ok (.goto 8, 3) := by decide +kernel
theorem dX12_line_171 : decode cX12_line 171 = .ok (.aload_n 0, 1) := by decide +kernel
theorem dX12_line_172 : decode cX12_line 172 = .ok (.iconst 1, 1) := by decide +kernel
theorem dX12_line_173 : decode cX12_line 173 = .ok (.invokevirtual 190, 3) := by decide +kernel
theorem dX12_line_176 : decode cX12_line 176 = .ok (.ireturn, 1) := by decide +kernel
def wp_X12_line (h : AH) (a0 : Nat) (post : AH → Int32 → Prop) : Prop := (ob h a0 11) ∧ wp_X12_isWord h a0 7499639 (fun hv1 iv2 => (iv2 = 0 → ((ob hv1 a0 11) ∧ wp_X12_isWord hv1 a0 1953064037 (fun hv3 iv4 => (iv4 = 0 → ((ob hv3 a0 11) ∧ wp_X12_isWord hv3 a0 1918985844 (fun hv5 iv6 => (iv6 = 0 → ((ob hv5 a0 11) ∧ wp_X12_isWord hv5 a0 1886350437 (fun hv7 iv8 => (iv8 = 0 → ((ob hv7 a0 11) ∧ wp_X12_isWord hv7 a0 1919905893 (fun hv9 iv10 => (iv10 = 0 → ((ob hv9 a0 11) ∧ wp_X12_isWord hv9 a0 1836019570 (fun hv11 iv12 => (iv12 = 0 → ((ob hv11 a0 11) ∧ wp_X12_isWord hv11 a0 126931137819237 (fun hv13 iv14 => (iv14 = 0 → ((ob hv13 a0 11) ∧ wp_X12_isWord hv13 a0 108187867505765 (fun hv15 iv16 => (iv16 = 0 → ((ob hv15 a0 11) ∧ wp_X12_isWord hv15 a0 418497262196 (fun hv17 iv18 => (iv18 = 0 → ((ob hv17 a0 11) ∧ wp_X12_isWord hv17 a0 7566702 (fun hv19 iv20 => (iv20 = 0 → ((ob hv19 a0 11) ∧ wp_X12_isWord hv19 a0 1818846579 (fun hv21 iv22 => (iv22 = 0 → ((ob hv21 a0 11) ∧ wp_X12_bad hv21 a0 1 (fun hv23 iv24 => (iv24 = 0 ∨ iv24 = 1) ∧ post hv23 iv24))) ∧ (¬ iv22 = 0 → ((ob hv21 a0 11) ∧ wp_X12_readWant hv21 a0 3 (fun hv25 iv26 => (iv26 = 0 ∨ iv26 = 1) ∧ post hv25 iv26)))))) ∧ (¬ iv20 = 0 → ((ob hv19 a0 11) ∧ wp_X12_readWant hv19 a0 2 (fun hv27 iv28 => (iv28 = 0 ∨ iv28 = 1) ∧ post hv27 iv28)))))) ∧ (¬ iv18 = 0 → ((ob hv17 a0 11) ∧ wp_X12_readWant hv17 a0 1 (fun hv29 iv30 => (iv30 = 0 ∨ iv30 = 1) ∧ post hv29 iv30)))))) ∧ (¬ iv16 = 0 → ((ob hv15 a0 11) ∧ wp_X12_readWant hv15 a0 0 (fun hv31 iv32 => (iv32 = 0 ∨ iv32 = 1) ∧ post hv31 iv32)))))) ∧ (¬ iv14 = 0 → ((ob hv13 a0 11) ∧ wp_X12_readSquare hv13 a0  (fun hv33 iv34 => (iv34 = 0 ∨ iv34 = 1) ∧ post hv33 iv34)))))) ∧ (¬ iv12 = 0 → ((ob hv11 a0 11) ∧ wp_X12_readMoor hv11 a0  (fun hv35 iv36 => (iv36 = 0 ∨ iv36 = 1) ∧ post hv35 iv36)))))) ∧ (¬ iv10 = 0 → ((ob hv9 a0 11) ∧ wp_X12_readRope hv9 a0  (fun hv37 iv38 => (iv38 = 0 ∨ iv38 = 1) ∧ post hv37 iv38)))))) ∧ (¬ iv8 = 0 → ((ob hv7 a0 11) ∧ wp_X12_readPole hv7 a0  (fun hv39 iv40 => (iv40 = 0 ∨ iv40 = 1) ∧ post hv39 iv40)))))) ∧ (¬ iv6 = 0 → ((ob hv5 a0 11) ∧ wp_X12_readRaft hv5 a0  (fun hv41 iv42 => (iv42 = 0 ∨ iv42 = 1) ∧ post hv41 iv42)))))) ∧ (¬ iv4 = 0 → ((ob hv3 a0 11) ∧ wp_X12_readTide hv3 a0  (fun hv43 iv44 => (iv44 = 0 ∨ iv44 = 1) ∧ post hv43 iv44)))))) ∧ (¬ iv2 = 0 → ((ob hv1 a0 11) ∧ wp_X12_readRow hv1 a0  (fun hv45 iv46 => (iv46 = 0 ∨ iv46 = 1) ∧ post hv45 iv46))))
set_option maxRecDepth 100000 in
theorem c_X12_line (G : GG) (h : AH) (a0 : Nat) (post : AH → Int32 → Prop) (hw : wp_X12_line h a0 post) : MC G yX12_line cX12_line 1 (some .boolean) 5 108 h [.ref (G.1 + a0)] (pI post) := by
  refine MC.of (lv := [(0, .ref (G.1 + a0))]) (by decide) (Nat.le_of_ble_eq_true rfl) rfl fun p l e R s m args below meth c C hr hnm => ?_
  unfold wp_X12_line at hw
  refine r_aload_n C dX12_line_0 0 rfl ?_
  refine r_ldc2 (v := 7499639) C (gm6 (List.mem_of_getElem? (i := 200) rfl) rfl) dX12_line_1 ?_
  have hob := hw.1
  replace hw := hw.2
  refine r_callV C (As := [.long 7499639]) (rest := []) (c_X12_isWord G h a0 7499639 _ hw) yl_X12_isWord (gm7 (List.mem_of_getElem? (i := 169) rfl) rfl) (gm7 (List.mem_of_getElem? (i := 171) rfl) rfl) (ci := 11) rfl (by decide) (gsel (List.mem_of_getElem? (i := 44) rfl)) hob (by decide) rfl (Nat.le_of_ble_eq_true rfl) dX12_line_4 rfl (kI fun hv1 iv2 hw => ?_)
  refine r_if_eq C dX12_line_7 15 (by decide) (fun hc => ?_) (fun hc => ?_)
  · replace hw := hw.1 hc
    refine r_aload_n C dX12_line_15 0 rfl ?_
    refine r_ldc2 (v := 1953064037) C (gm6 (List.mem_of_getElem? (i := 201) rfl) rfl) dX12_line_16 ?_
    have hob := hw.1
    replace hw := hw.2
    refine r_callV C (As := [.long 1953064037]) (rest := []) (c_X12_isWord G hv1 a0 1953064037 _ hw) yl_X12_isWord (gm7 (List.mem_of_getElem? (i := 169) rfl) rfl) (gm7 (List.mem_of_getElem? (i := 171) rfl) rfl) (ci := 11) rfl (by decide) (gsel (List.mem_of_getElem? (i := 44) rfl)) hob (by decide) rfl (Nat.le_of_ble_eq_true rfl) dX12_line_19 rfl (kI fun hv3 iv4 hw => ?_)
    refine r_if_eq C dX12_line_22 30 (by decide) (fun hc => ?_) (fun hc => ?_)
    · replace hw := hw.1 hc
      refine r_aload_n C dX12_line_30 0 rfl ?_
      refine r_ldc2 (v := 1918985844) C (gm6 (List.mem_of_getElem? (i := 202) rfl) rfl) dX12_line_31 ?_
      have hob := hw.1
      replace hw := hw.2
      refine r_callV C (As := [.long 1918985844]) (rest := []) (c_X12_isWord G hv3 a0 1918985844 _ hw) yl_X12_isWord (gm7 (List.mem_of_getElem? (i := 169) rfl) rfl) (gm7 (List.mem_of_getElem? (i := 171) rfl) rfl) (ci := 11) rfl (by decide) (gsel (List.mem_of_getElem? (i := 44) rfl)) hob (by decide) rfl (Nat.le_of_ble_eq_true rfl) dX12_line_34 rfl (kI fun hv5 iv6 hw => ?_)
      refine r_if_eq C dX12_line_37 45 (by decide) (fun hc => ?_) (fun hc => ?_)
      · replace hw := hw.1 hc
        refine r_aload_n C dX12_line_45 0 rfl ?_
        refine r_ldc2 (v := 1886350437) C (gm6 (List.mem_of_getElem? (i := 203) rfl) rfl) dX12_line_46 ?_
        have hob := hw.1
        replace hw := hw.2
        refine r_callV C (As := [.long 1886350437]) (rest := []) (c_X12_isWord G hv5 a0 1886350437 _ hw) yl_X12_isWord (gm7 (List.mem_of_getElem? (i := 169) rfl) rfl) (gm7 (List.mem_of_getElem? (i := 171) rfl) rfl) (ci := 11) rfl (by decide) (gsel (List.mem_of_getElem? (i := 44) rfl)) hob (by decide) rfl (Nat.le_of_ble_eq_true rfl) dX12_line_49 rfl (kI fun hv7 iv8 hw => ?_)
        refine r_if_eq C dX12_line_52 60 (by decide) (fun hc => ?_) (fun hc => ?_)
        · replace hw := hw.1 hc
          refine r_aload_n C dX12_line_60 0 rfl ?_
          refine r_ldc2 (v := 1919905893) C (gm6 (List.mem_of_getElem? (i := 204) rfl) rfl) dX12_line_61 ?_
          have hob := hw.1
          replace hw := hw.2
          refine r_callV C (As := [.long 1919905893]) (rest := []) (c_X12_isWord G hv7 a0 1919905893 _ hw) yl_X12_isWord (gm7 (List.mem_of_getElem? (i := 169) rfl) rfl) (gm7 (List.mem_of_getElem? (i := 171) rfl) rfl) (ci := 11) rfl (by decide) (gsel (List.mem_of_getElem? (i := 44) rfl)) hob (by decide) rfl (Nat.le_of_ble_eq_true rfl) dX12_line_64 rfl (kI fun hv9 iv10 hw => ?_)
          refine r_if_eq C dX12_line_67 75 (by decide) (fun hc => ?_) (fun hc => ?_)
          · replace hw := hw.1 hc
            refine r_aload_n C dX12_line_75 0 rfl ?_
            refine r_ldc2 (v := 1836019570) C (gm6 (List.mem_of_getElem? (i := 205) rfl) rfl) dX12_line_76 ?_
            have hob := hw.1
            replace hw := hw.2
            refine r_callV C (As := [.long 1836019570]) (rest := []) (c_X12_isWord G hv9 a0 1836019570 _ hw) yl_X12_isWord (gm7 (List.mem_of_getElem? (i := 169) rfl) rfl) (gm7 (List.mem_of_getElem? (i := 171) rfl) rfl) (ci := 11) rfl (by decide) (gsel (List.mem_of_getElem? (i := 44) rfl)) hob (by decide) rfl (Nat.le_of_ble_eq_true rfl) dX12_line_79 rfl (kI fun hv11 iv12 hw => ?_)
            refine r_if_eq C dX12_line_82 90 (by decide) (fun hc => ?_) (fun hc => ?_)
            · replace hw := hw.1 hc
              refine r_aload_n C dX12_line_90 0 rfl ?_
              refine r_ldc2 (v := 126931137819237) C (gm6 (List.mem_of_getElem? (i := 206) rfl) rfl) dX12_line_91 ?_
              have hob := hw.1
              replace hw := hw.2
              refine r_callV C (As := [.long 126931137819237]) (rest := []) (c_X12_isWord G hv11 a0 126931137819237 _ hw) yl_X12_isWord (gm7 (List.mem_of_getElem? (i := 169) rfl) rfl) (gm7 (List.mem_of_getElem? (i := 171) rfl) rfl) (ci := 11) rfl (by decide) (gsel (List.mem_of_getElem? (i := 44) rfl)) hob (by decide) rfl (Nat.le_of_ble_eq_true rfl) dX12_line_94 rfl (kI fun hv13 iv14 hw => ?_)
              refine r_if_eq C dX12_line_97 105 (by decide) (fun hc => ?_) (fun hc => ?_)
              · replace hw := hw.1 hc
                refine r_aload_n C dX12_line_105 0 rfl ?_
                refine r_ldc2 (v := 108187867505765) C (gm6 (List.mem_of_getElem? (i := 207) rfl) rfl) dX12_line_106 ?_
                have hob := hw.1
                replace hw := hw.2
                refine r_callV C (As := [.long 108187867505765]) (rest := []) (c_X12_isWord G hv13 a0 108187867505765 _ hw) yl_X12_isWord (gm7 (List.mem_of_getElem? (i := 169) rfl) rfl) (gm7 (List.mem_of_getElem? (i := 171) rfl) rfl) (ci := 11) rfl (by decide) (gsel (List.mem_of_getElem? (i := 44) rfl)) hob (by decide) rfl (Nat.le_of_ble_eq_true rfl) dX12_line_109 rfl (kI fun hv15 iv16 hw => ?_)
                refine r_if_eq C dX12_line_112 121 (by decide) (fun hc => ?_) (fun hc => ?_)
                · replace hw := hw.1 hc
                  refine r_aload_n C dX12_line_121 0 rfl ?_
                  refine r_ldc2 (v := 418497262196) C (gm6 (List.mem_of_getElem? (i := 208) rfl) rfl) dX12_line_122 ?_
                  have hob := hw.1
                  replace hw := hw.2
                  refine r_callV C (As := [.long 418497262196]) (rest := []) (c_X12_isWord G hv15 a0 418497262196 _ hw) yl_X12_isWord (gm7 (List.mem_of_getElem? (i := 169) rfl) rfl) (gm7 (List.mem_of_getElem? (i := 171) rfl) rfl) (ci := 11) rfl (by decide) (gsel (List.mem_of_getElem? (i := 44) rfl)) hob (by decide) rfl (Nat.le_of_ble_eq_true rfl) dX12_line_125 rfl (kI fun hv17 iv18 hw => ?_)
                  refine r_if_eq C dX12_line_128 137 (by decide) (fun hc => ?_) (fun hc => ?_)
                  · replace hw := hw.1 hc
                    refine r_aload_n C dX12_line_137 0 rfl ?_
                    refine r_ldc2 (v := 7566702) C (gm6 (List.mem_of_getElem? (i := 209) rfl) rfl) dX12_line_138 ?_
                    have hob := hw.1
                    replace hw := hw.2
                    refine r_callV C (As := [.long 7566702]) (rest := []) (c_X12_isWord G hv17 a0 7566702 _ hw) yl_X12_isWord (gm7 (List.mem_of_getElem? (i := 169) rfl) rfl) (gm7 (List.mem_of_getElem? (i := 171) rfl) rfl) (ci := 11) rfl (by decide) (gsel (List.mem_of_getElem? (i := 44) rfl)) hob (by decide) rfl (Nat.le_of_ble_eq_true rfl) dX12_line_141 rfl (kI fun hv19 iv20 hw => ?_)
                    refine r_if_eq C dX12_line_144 153 (by decide) (fun hc => ?_) (fun hc => ?_)
                    · replace hw := hw.1 hc
                      refine r_aload_n C dX12_line_153 0 rfl ?_
                      refine r_ldc2 (v := 1818846579) C (gm6 (List.mem_of_getElem? (i := 210) rfl) rfl) dX12_line_154 ?_
                      have hob := hw.1
                      replace hw := hw.2
                      refine r_callV C (As := [.long 1818846579]) (rest := []) (c_X12_isWord G hv19 a0 1818846579 _ hw) yl_X12_isWord (gm7 (List.mem_of_getElem? (i := 169) rfl) rfl) (gm7 (List.mem_of_getElem? (i := 171) rfl) rfl) (ci := 11) rfl (by decide) (gsel (List.mem_of_getElem? (i := 44) rfl)) hob (by decide) rfl (Nat.le_of_ble_eq_true rfl) dX12_line_157 rfl (kI fun hv21 iv22 hw => ?_)
                      refine r_if_eq C dX12_line_160 171 (by decide) (fun hc => ?_) (fun hc => ?_)
                      · replace hw := hw.1 hc
                        refine r_aload_n C dX12_line_171 0 rfl ?_
                        refine r_iconst (v := 1) C dX12_line_172 (by decide) ?_
                        have hob := hw.1
                        replace hw := hw.2
                        refine r_callV C (As := [.int 1]) (rest := []) (c_X12_bad G hv21 a0 1 _ hw) yl_X12_bad (gm7 (List.mem_of_getElem? (i := 177) rfl) rfl) (gm7 (List.mem_of_getElem? (i := 179) rfl) rfl) (ci := 11) rfl (by decide) (gsel (List.mem_of_getElem? (i := 46) rfl)) hob (by decide) rfl (Nat.le_of_ble_eq_true rfl) dX12_line_173 rfl (kI fun hv23 iv24 hw => ?_)
                        exact r_zret C hr dX12_line_176 hw.1 hw.2
                      · replace hw := hw.2 hc
                        refine r_aload_n C dX12_line_163 0 rfl ?_
                        refine r_iconst (v := 3) C dX12_line_164 (by decide) ?_
                        have hob := hw.1
                        replace hw := hw.2
                        refine r_callV C (As := [.int 3]) (rest := []) (c_X12_readWant G hv21 a0 3 _ hw) yl_X12_readWant (gm8 (List.mem_of_getElem? (i := 10) rfl) rfl) (gm8 (List.mem_of_getElem? (i := 12) rfl) rfl) (ci := 11) rfl (by decide) (gsel (List.mem_of_getElem? (i := 62) rfl)) hob (by decide) rfl (Nat.le_of_ble_eq_true rfl) dX12_line_165 rfl (kI fun hv25 iv26 hw => ?_)
                        refine r_goto C dX12_line_168 176 (by decide) ?_
                        exact r_zret C hr dX12_line_176 hw.1 hw.2
                    · replace hw := hw.2 hc
                      refine r_aload_n C dX12_line_147 0 rfl ?_
                      refine r_iconst (v := 2) C dX12_line_148 (by decide) ?_
                      have hob := hw.1
                      replace hw := hw.2
                      refine r_callV C (As := [.int 2]) (rest := []) (c_X12_readWant G hv19 a0 2 _ hw) yl_X12_readWant (gm8 (List.mem_of_getElem? (i := 10) rfl) rfl) (gm8 (List.mem_of_getElem? (i := 12) rfl) rfl) (ci := 11) rfl (by decide) (gsel (List.mem_of_getElem? (i := 62) rfl)) hob (by decide) rfl (Nat.le_of_ble_eq_true rfl) dX12_line_149 rfl (kI fun hv27 iv28 hw => ?_)
                      exact r_zret C hr dX12_line_152 hw.1 hw.2
                  · replace hw := hw.2 hc
                    refine r_aload_n C dX12_line_131 0 rfl ?_
                    refine r_iconst (v := 1) C dX12_line_132 (by decide) ?_
                    have hob := hw.1
                    replace hw := hw.2
                    refine r_callV C (As := [.int 1]) (rest := []) (c_X12_readWant G hv17 a0 1 _ hw) yl_X12_readWant (gm8 (List.mem_of_getElem? (i := 10) rfl) rfl) (gm8 (List.mem_of_getElem? (i := 12) rfl) rfl) (ci := 11) rfl (by decide) (gsel (List.mem_of_getElem? (i := 62) rfl)) hob (by decide) rfl (Nat.le_of_ble_eq_true rfl) dX12_line_133 rfl (kI fun hv29 iv30 hw => ?_)
                    exact r_zret C hr dX12_line_136 hw.1 hw.2
                · replace hw := hw.2 hc
                  refine r_aload_n C dX12_line_115 0 rfl ?_
                  refine r_iconst (v := 0) C dX12_line_116 (by decide) ?_
                  have hob := hw.1
                  replace hw := hw.2
                  refine r_callV C (As := [.int 0]) (rest := []) (c_X12_readWant G hv15 a0 0 _ hw) yl_X12_readWant (gm8 (List.mem_of_getElem? (i := 10) rfl) rfl) (gm8 (List.mem_of_getElem? (i := 12) rfl) rfl) (ci := 11) rfl (by decide) (gsel (List.mem_of_getElem? (i := 62) rfl)) hob (by decide) rfl (Nat.le_of_ble_eq_true rfl) dX12_line_117 rfl (kI fun hv31 iv32 hw => ?_)
                  exact r_zret C hr dX12_line_120 hw.1 hw.2
              · replace hw := hw.2 hc
                refine r_aload_n C dX12_line_100 0 rfl ?_
                have hob := hw.1
                replace hw := hw.2
                refine r_callV C (As := []) (rest := []) (c_X12_readSquare G hv13 a0  _ hw) yl_X12_readSquare (gm8 (List.mem_of_getElem? (i := 2) rfl) rfl) (gm8 (List.mem_of_getElem? (i := 4) rfl) rfl) (ci := 11) rfl (by decide) (gsel (List.mem_of_getElem? (i := 60) rfl)) hob (by decide) rfl (Nat.le_of_ble_eq_true rfl) dX12_line_101 rfl (kI fun hv33 iv34 hw => ?_)
                exact r_zret C hr dX12_line_104 hw.1 hw.2
            · replace hw := hw.2 hc
              refine r_aload_n C dX12_line_85 0 rfl ?_
              have hob := hw.1
              replace hw := hw.2
              refine r_callV C (As := []) (rest := []) (c_X12_readMoor G hv11 a0  _ hw) yl_X12_readMoor (gm7 (List.mem_of_getElem? (i := 238) rfl) rfl) (gm8 (List.mem_of_getElem? (i := 0) rfl) rfl) (ci := 11) rfl (by decide) (gsel (List.mem_of_getElem? (i := 59) rfl)) hob (by decide) rfl (Nat.le_of_ble_eq_true rfl) dX12_line_86 rfl (kI fun hv35 iv36 hw => ?_)
              exact r_zret C hr dX12_line_89 hw.1 hw.2
          · replace hw := hw.2 hc
            refine r_aload_n C dX12_line_70 0 rfl ?_
            have hob := hw.1
            replace hw := hw.2
            refine r_callV C (As := []) (rest := []) (c_X12_readRope G hv9 a0  _ hw) yl_X12_readRope (gm7 (List.mem_of_getElem? (i := 215) rfl) rfl) (gm7 (List.mem_of_getElem? (i := 217) rfl) rfl) (ci := 11) rfl (by decide) (gsel (List.mem_of_getElem? (i := 54) rfl)) hob (by decide) rfl (Nat.le_of_ble_eq_true rfl) dX12_line_71 rfl (kI fun hv37 iv38 hw => ?_)
            exact r_zret C hr dX12_line_74 hw.1 hw.2
        · replace hw := hw.2 hc
          refine r_aload_n C dX12_line_55 0 rfl ?_
          have hob := hw.1
          replace hw := hw.2
          refine r_callV C (As := []) (rest := []) (c_X12_readPole G hv7 a0  _ hw) yl_X12_readPole (gm7 (List.mem_of_getElem? (i := 211) rfl) rfl) (gm7 (List.mem_of_getElem? (i := 213) rfl) rfl) (ci := 11) rfl (by decide) (gsel (List.mem_of_getElem? (i := 53) rfl)) hob (by decide) rfl (Nat.le_of_ble_eq_true rfl) dX12_line_56 rfl (kI fun hv39 iv40 hw => ?_)
          exact r_zret C hr dX12_line_59 hw.1 hw.2
      · replace hw := hw.2 hc
        refine r_aload_n C dX12_line_40 0 rfl ?_
        have hob := hw.1
        replace hw := hw.2
        refine r_callV C (As := []) (rest := []) (c_X12_readRaft G hv5 a0  _ hw) yl_X12_readRaft (gm7 (List.mem_of_getElem? (i := 199) rfl) rfl) (gm7 (List.mem_of_getElem? (i := 201) rfl) rfl) (ci := 11) rfl (by decide) (gsel (List.mem_of_getElem? (i := 50) rfl)) hob (by decide) rfl (Nat.le_of_ble_eq_true rfl) dX12_line_41 rfl (kI fun hv41 iv42 hw => ?_)
        exact r_zret C hr dX12_line_44 hw.1 hw.2
    · replace hw := hw.2 hc
      refine r_aload_n C dX12_line_25 0 rfl ?_
      have hob := hw.1
      replace hw := hw.2
      refine r_callV C (As := []) (rest := []) (c_X12_readTide G hv3 a0  _ hw) yl_X12_readTide (gm7 (List.mem_of_getElem? (i := 185) rfl) rfl) (gm7 (List.mem_of_getElem? (i := 187) rfl) rfl) (ci := 11) rfl (by decide) (gsel (List.mem_of_getElem? (i := 48) rfl)) hob (by decide) rfl (Nat.le_of_ble_eq_true rfl) dX12_line_26 rfl (kI fun hv43 iv44 hw => ?_)
      exact r_zret C hr dX12_line_29 hw.1 hw.2
  · replace hw := hw.2 hc
    refine r_aload_n C dX12_line_10 0 rfl ?_
    have hob := hw.1
    replace hw := hw.2
    refine r_callV C (As := []) (rest := []) (c_X12_readRow G hv1 a0  _ hw) yl_X12_readRow (gm7 (List.mem_of_getElem? (i := 173) rfl) rfl) (gm7 (List.mem_of_getElem? (i := 175) rfl) rfl) (ci := 11) rfl (by decide) (gsel (List.mem_of_getElem? (i := 45) rfl)) hob (by decide) rfl (Nat.le_of_ble_eq_true rfl) dX12_line_11 rfl (kI fun hv45 iv46 hw => ?_)
    exact r_zret C hr dX12_line_14 hw.1 hw.2
theorem dX12_lagoon_0 : decode cX12_lagoon 0 = .ok (.aload_n 0, 1) := by decide +kernel
theorem dX12_lagoon_1 : decode cX12_lagoon 1 = .ok (.iconst 0, 1) := by decide +kernel
theorem dX12_lagoon_2 : decode cX12_lagoon 2 = .ok (.putfield 1, 3) := by decide +kernel
theorem dX12_lagoon_5 : decode cX12_lagoon 5 = .ok (.aload_n 0, 1) := by decide +kernel
theorem dX12_lagoon_6 : decode cX12_lagoon 6 = .ok (.sipush 900, 3) := by decide +kernel
theorem dX12_lagoon_9 : decode cX12_lagoon 9 = .ok (.invokevirtual 275, 3) := by decide +kernel
theorem dX12_lagoon_12 : decode cX12_lagoon 12 = .ok (.aload_n 0, 1) := by decide +kernel
theorem dX12_lagoon_13 : decode cX12_lagoon 13 = .ok (.iconst 0, 1) := by decide +kernel
theorem dX12_lagoon_14 : decode cX12_lagoon 14 = .ok (.putfield 181, 3) := by decide +kernel
theorem dX12_lagoon_17 : decode cX12_lagoon 17 = .ok (.aload_n 0, 1) := by decide +kernel
theorem dX12_lagoon_18 : decode cX12_lagoon 18 = .ok (.iconst 0, 1) := by decide +kernel
theorem dX12_lagoon_19 : decode cX12_lagoon 19 = .ok (.putfield 278, 3) := by decide +kernel
theorem dX12_lagoon_22 : decode cX12_lagoon 22 = .ok (.aload_n 0, 1) := by decide +kernel
theorem dX12_lagoon_23 : decode cX12_lagoon 23 = .ok (.iconst 0, 1) := by decide +kernel
theorem dX12_lagoon_24 : decode cX12_lagoon 24 = .ok (.putfield 253, 3) := by decide +kernel
theorem dX12_lagoon_27 : decode cX12_lagoon 27 = .ok (.aload_n 0, 1) := by decide +kernel
theorem dX12_lagoon_28 : decode cX12_lagoon 28 = .ok (.iconst 0, 1) := by decide +kernel
theorem dX12_lagoon_29 : decode cX12_lagoon 29 = .ok (.putfield 265, 3) := by decide +kernel
theorem dX12_lagoon_32 : decode cX12_lagoon 32 = .ok (.aload_n 0, 1) := by decide +kernel
theorem dX12_lagoon_33 : decode cX12_lagoon 33 = .ok (.invokevirtual 151, 3) := by decide +kernel
theorem dX12_lagoon_36 : decode cX12_lagoon 36 = .ok (.aload_n 0, 1) := by decide +kernel
theorem dX12_lagoon_37 : decode cX12_lagoon 37 = .ok (.invokevirtual 193, 3) := by decide +kernel
theorem dX12_lagoon_40 : decode cX12_lagoon 40 = .ok (.aload_n 0, 1) := by decide +kernel
theorem dX12_lagoon_41 : decode cX12_lagoon 41 = .ok (.getfield 164, 3) := by decide +kernel
theorem dX12_lagoon_44 : decode cX12_lagoon 44 = .ok (.ifCond .eq 39, 3) := by decide +kernel
theorem dX12_lagoon_47 : decode cX12_lagoon 47 = .ok (.aload_n 0, 1) := by decide +kernel
theorem dX12_lagoon_48 : decode cX12_lagoon 48 = .ok (.invokevirtual 281, 3) := by decide +kernel
theorem dX12_lagoon_51 : decode cX12_lagoon 51 = .ok (.ifCond .eq 12, 3) := by decide +kernel
theorem dX12_lagoon_54 : decode cX12_lagoon 54 = .ok (.aload_n 0, 1) := by decide +kernel
theorem dX12_lagoon_55 : decode cX12_lagoon 55 = .ok (.bipush 59, 2) := by decide +kernel
theorem dX12_lagoon_57 : decode cX12_lagoon 57 = .ok (.invokevirtual 284, 3) := by decide +kernel
theorem dX12_lagoon_60 : decode cX12_lagoon 60 = .ok (.ifCond .ne 10, 3) := by decide +kernel
theorem dX12_lagoon_63 : decode cX12_lagoon 63 = .ok (.iconst (-1), 1) := by decide +kernel
theorem dX12_lagoon_64 : decode cX12_lagoon 64 = .ok (.aload_n 0, 1) := by decide +kernel
theorem dX12_lagoon_65 : decode cX12_lagoon 65 = .ok (.getfield 184, 3) := by decide +kernel
theorem dX12_lagoon_68 : decode cX12_lagoon 68 = .ok (.isub, 1) := by decide +kernel
theorem dX12_lagoon_69 : decode cX12_lagoon 69 = .ok (.ireturn, 1) := by decide +kernel
theorem dX12_lagoon_70 : decode cX12_lagoon 70 = .ok (.aload_n 0, 1) := by decide +kernel
theorem dX12_lagoon_71 : decode cX12_lagoon 71 = .ok (.dup, 1) := by decide +kernel
theorem dX12_lagoon_72 : decode cX12_lagoon 72 = .ok (.getfield 278, 3) := by decide +kernel
theorem dX12_lagoon_75 : decode cX12_lagoon 75 = .ok (.iconst 1, 1) := by decide +kernel
theorem dX12_lagoon_76 : decode cX12_lagoon 76 = .ok (.iadd, 1) := by decide +kernel
theorem dX12_lagoon_77 : decode cX12_lagoon 77 = .ok (.putfield 278, 3) := by decide +kernel
theorem dX12_lagoon_80 : decode cX12_lagoon 80 = .ok (.goto (-40), 3) := by decide +kernel
theorem dX12_lagoon_83 : decode cX12_lagoon 83 = .ok (.iconst 0, 1) := by decide +kernel
theorem dX12_lagoon_84 : decode cX12_lagoon 84 = .ok (.istore_n 1, 1) := by decide +kernel
theorem dX12_lagoon_85 : decode cX12_lagoon 85 = .ok (.iload_n 1, 1) := by decide +kernel
theorem dX12_lagoon_86 : decode cX12_lagoon 86 = .ok (.sipush 370, 3) := by decide +kernel
theorem dX12_lagoon_89 : decode cX12_lagoon 89 = .ok (.if_icmp .ge 32, 3) := by decide +kernel
theorem dX12_lagoon_92 : decode cX12_lagoon 92 = .ok (.aload_n 0, 1) := by decide +kernel
theorem dX12_lagoon_93 : decode cX12_lagoon 93 = .ok (.getfield 33, 3) := by decide +kernel
theorem dX12_lagoon_96 : decode cX12_lagoon 96 = .ok (.iload_n 1, 1) := by decide +kernel
theorem dX12_lagoon_97 : decode cX12_lagoon 97 = .ok (.iload_n 1, 1) := by decide +kernel
theorem dX12_lagoon_98 : decode cX12_lagoon 98 = .ok (.sipush 249, 3) := by decide +kernel
theorem dX12_lagoon_101 : decode cX12_lagoon 101 = .ok (.if_icmp .ge 12, 3) := by decide +kernel
theorem dX12_lagoon_104 : decode cX12_lagoon 104 = .ok (.aload_n 0, 1) := by decide +kernel
theorem dX12_lagoon_105 : decode cX12_lagoon 105 = .ok (.getfield 37, 3) := by decide +kernel
theorem dX12_lagoon_108 : decode cX12_lagoon 108 = .ok (.iload_n 1, 1) := by decide +kernel
theorem dX12_lagoon_109 : decode cX12_lagoon 109 = .ok (.iaload, 1) := by decide +kernel
theorem dX12_lagoon_110 : decode cX12_lagoon 110 = .ok (.goto 4, 3) := by decide +kernel
theorem dX12_lagoon_113 : decode cX12_lagoon 113 = .ok (.iconst 0, 1) := by decide +kernel
theorem dX12_lagoon_114 : decode cX12_lagoon 114 = .ok (.iastore, 1) := by decide +kernel
theorem dX12_lagoon_115 : decode cX12_lagoon 115 = .ok (.iinc 1 1, 3) := by decide +kernel
theorem dX12_lagoon_118 : decode cX12_lagoon 118 = .ok (.goto (-33), 3) := by decide +kernel
theorem dX12_lagoon_121 : decode cX12_lagoon 121 = .ok (.iconst 0, 1) := by decide +kernel
theorem dX12_lagoon_122 : decode cX12_lagoon 122 = .ok (.istore_n 1, 1) := by decide +kernel
theorem dX12_lagoon_123 : decode cX12_lagoon 123 = .ok (.iload_n 1, 1) := by decide +kernel
theorem dX12_lagoon_124 : decode cX12_lagoon 124 = .ok (.bipush 8, 2) := by decide +kernel
theorem dX12_lagoon_126 : decode cX12_lagoon 126 = .ok (.if_icmp .ge 24, 3) := by decide +kernel
theorem dX12_lagoon_129 : decode cX12_lagoon 129 = .ok (.aload_n 0, 1) := by decide +kernel
theorem dX12_lagoon_130 : decode cX12_lagoon 130 = .ok (.getfield 43, 3) := by decide +kernel
theorem dX12_lagoon_133 : decode cX12_lagoon 133 = .ok (.iload_n 1, 1) := by decide +kernel
theorem dX12_lagoon_134 : decode cX12_lagoon 134 = .ok (.aload_n 0, 1) := by decide +kernel
theorem dX12_lagoon_135 : decode cX12_lagoon 135 = .ok (.getfield 43, 3) := by decide +kernel
theorem dX12_lagoon_138 : decode cX12_lagoon 138 = .ok (.bipush 8, 2) := by decide +kernel
theorem dX12_lagoon_140 : decode cX12_lagoon 140 = .ok (.iload_n 1, 1) := by decide +kernel
theorem dX12_lagoon_141 : decode cX12_lagoon 141 = .ok (.iadd, 1) := by decide +kernel
theorem dX12_lagoon_142 : decode cX12_lagoon 142 = .ok (.laload, 1) := by decide +kernel
theorem dX12_lagoon_143 : decode cX12_lagoon 143 = .ok (.lastore, 1) := by decide +kernel
theorem dX12_lagoon_144 : decode cX12_lagoon 144 = .ok (.iinc 1 1, 3) := by decide +kernel
theorem dX12_lagoon_147 : decode cX12_lagoon 147 = .ok (.goto (-24), 3) := by decide +kernel
theorem dX12_lagoon_150 : decode cX12_lagoon 150 = .ok (.aload_n 0, 1) := by decide +kernel
theorem dX12_lagoon_151 : decode cX12_lagoon 151 = .ok (.getfield 278, 3) := by decide +kernel
theorem dX12_lagoon_154 : decode cX12_lagoon 154 = .ok (.ireturn, 1) := by decide +kernel
def wb_X12_lagoon_123 (K123 : AH → Nat → Int32 → Prop) (h : AH) (al0 : Nat) (xl1 : Int32)  (post : AH → Int32 → Prop) : Prop := (8 ≤ xl1 → ((ob h al0 11) ∧ (post h (aI h al0 21)))) ∧ (¬ 8 ≤ xl1 → ((ob h al0 11) ∧ (∃ rv1, aP h al0 9 = some rv1 ∧ ((ob h al0 11) ∧ (∃ rv2, aP h al0 9 = some rv2 ∧ ((ob h rv2 14) ∧ ((vp_in ((8 : Int32) + xl1) (aL h rv2)) ∧ ((ob h rv1 14) ∧ ((vp_in xl1 (aL h rv1)) ∧ (∀ hv3 : AH, hv3 = hJ h rv1 xl1.toNatClampNeg (aJ h rv2 ((8 : Int32) + xl1).toNatClampNeg) → (∀ iv4 : Int32, iv4 = xl1 + 1 → (K123 hv3 al0 iv4))))))))))))
set_option maxRecDepth 100000 in
theorem tb_X12_lagoon_123 {G : GG} {p : Program} {l : Launch} {e : Env} {R : Room} {s : State} {m : MethodId} {args : Array Value} {below : List Frame} {meth : Method} {c : Code} {n0 s0 : Nat} {post : AH → Int32 → Prop} (C : Cx G p R s m args meth c 2 cX12_lagoon RX12 n0 s0 6 128) (hr : meth.sig.returnType = (some .int)) {K123 : AH → Nat → Int32 → Prop} (hK123 : ∀ (h : AH) (al0 : Nat) (xl1 : Int32), K123 h al0 xl1 → AW G p l e R s m args below meth c 2 (QM G (pI post) args s below n0 s0) 123 [(0, .ref (G.1 + al0)), (1, .int xl1)] [] h) {h : AH} {al0 : Nat} {xl1 : Int32}  (hw : wb_X12_lagoon_123 K123 h al0 xl1 post) : AW G p l e R s m args below meth c 2 (QM G (pI post) args s below n0 s0) 123 [(0, .ref (G.1 + al0)), (1, .int xl1)] [] h := by
  unfold wb_X12_lagoon_123 at hw
  refine r_iload_n C dX12_lagoon_123 1 rfl ?_
  refine r_bipush (v := 8) C dX12_lagoon_124 (by decide) ?_
  refine r_icmp_ge C dX12_lagoon_126 150 (by decide) (fun hc => ?_) (fun hc => ?_)
  · replace hw := hw.1 hc
    refine r_aload_n C dX12_lagoon_150 0 rfl ?_
    refine r_getI C fl_RX12_278_11 hw.1 (fun _ _ _ => rfl) dX12_lagoon_151 ?_
    replace hw := hw.2
    exact r_iret C hr dX12_lagoon_154 hw
  · replace hw := hw.2 hc
    refine r_aload_n C dX12_lagoon_129 0 rfl ?_
    have hob := hw.1
    obtain ⟨rv1, hp, hw⟩ := hw.2
    refine r_getP C fl_RX12_43_11 hob hp (fun _ _ _ => rfl) dX12_lagoon_130 ?_
    refine r_iload_n C dX12_lagoon_133 1 rfl ?_
    refine r_aload_n C dX12_lagoon_134 0 rfl ?_
    have hob := hw.1
    obtain ⟨rv2, hp, hw⟩ := hw.2
    refine r_getP C fl_RX12_43_11 hob hp (fun _ _ _ => rfl) dX12_lagoon_135 ?_
    refine r_bipush (v := 8) C dX12_lagoon_138 (by decide) ?_
    refine r_iload_n C dX12_lagoon_140 1 rfl ?_
    refine r_iadd C dX12_lagoon_141 ?_
    refine r_laload C hw.1 hw.2.1 dX12_lagoon_142 ?_
    replace hw := hw.2.2
    refine r_lastore C hw.1 hw.2.1 dX12_lagoon_143 ?_
    replace hw := hw.2.2
    refine r_toph fun hv3 ehv3 => ?_
    replace hw := hw hv3 ehv3
    obtain ⟨iv4, eiv4⟩ : ∃ q : Int32, q = xl1 + 1 := ⟨_, rfl⟩
    replace hw := hw iv4 eiv4
    refine r_iinc C dX12_lagoon_144 1 rfl (by rw [eiv4]; rfl) [(1, .int iv4), (0, .ref (G.1 + al0))] (by decide) rfl ?_
    refine r_goto C dX12_lagoon_147 123 (by decide) ?_
    refine r_sub [1, 0] rfl ?_
    exact hK123 _ _ _ hw
def wl_X12_lagoon_123  (post : AH → Int32 → Prop) : Nat → AH → Nat → Int32 → Prop
  | 0 => fun _ _ _ => False
  | n + 1 => fun h al0 xl1 => wb_X12_lagoon_123  (wl_X12_lagoon_123  post n) h al0 xl1 post
theorem tl_X12_lagoon_123 {G : GG} {p : Program} {l : Launch} {e : Env} {R : Room} {s : State} {m : MethodId} {args : Array Value} {below : List Frame} {meth : Method} {c : Code} {n0 s0 : Nat} {post : AH → Int32 → Prop} (C : Cx G p R s m args meth c 2 cX12_lagoon RX12 n0 s0 6 128) (hr : meth.sig.returnType = (some .int))   : ∀ (n : Nat) (h : AH) (al0 : Nat) (xl1 : Int32), wl_X12_lagoon_123  post n h al0 xl1 → AW G p l e R s m args below meth c 2 (QM G (pI post) args s below n0 s0) 123 [(0, .ref (G.1 + al0)), (1, .int xl1)] [] h := by
  intro n
  induction n with
  | zero => intro h al0 xl1 hw; exact hw.elim
  | succ n ih => intro h al0 xl1 hw; exact tb_X12_lagoon_123 C hr  ih hw
def wb_X12_lagoon_114 (K85 : AH → Nat → Int32 → Prop) (h : AH) (al0 : Nat) (xl1 : Int32) (xs0 : Int32) (xs1 : Int32) (as2 : Nat) (post : AH → Int32 → Prop) : Prop := (ob h as2 13) ∧ ((vp_in xs1 (aL h as2)) ∧ (∀ hv1 : AH, hv1 = hI h as2 xs1.toNatClampNeg xs0 → (∀ iv2 : Int32, iv2 = xl1 + 1 → (K85 hv1 al0 iv2))))
set_option maxRecDepth 100000 in
theorem tb_X12_lagoon_114 {G : GG} {p : Program} {l : Launch} {e : Env} {R : Room} {s : State} {m : MethodId} {args : Array Value} {below : List Frame} {meth : Method} {c : Code} {n0 s0 : Nat} {post : AH → Int32 → Prop} (C : Cx G p R s m args meth c 2 cX12_lagoon RX12 n0 s0 6 128) (hr : meth.sig.returnType = (some .int)) {K85 : AH → Nat → Int32 → Prop} (hK85 : ∀ (h : AH) (al0 : Nat) (xl1 : Int32), K85 h al0 xl1 → AW G p l e R s m args below meth c 2 (QM G (pI post) args s below n0 s0) 85 [(0, .ref (G.1 + al0)), (1, .int xl1)] [] h) {h : AH} {al0 : Nat} {xl1 : Int32} {xs0 : Int32} {xs1 : Int32} {as2 : Nat} (hw : wb_X12_lagoon_114 K85 h al0 xl1 xs0 xs1 as2 post) : AW G p l e R s m args below meth c 2 (QM G (pI post) args s below n0 s0) 114 [(0, .ref (G.1 + al0)), (1, .int xl1)] [.int xs0, .int xs1, .ref (G.1 + as2)] h := by
  unfold wb_X12_lagoon_114 at hw
  refine r_iastore C hw.1 hw.2.1 dX12_lagoon_114 ?_
  replace hw := hw.2.2
  refine r_toph fun hv1 ehv1 => ?_
  replace hw := hw hv1 ehv1
  obtain ⟨iv2, eiv2⟩ : ∃ q : Int32, q = xl1 + 1 := ⟨_, rfl⟩
  replace hw := hw iv2 eiv2
  refine r_iinc C dX12_lagoon_115 1 rfl (by rw [eiv2]; rfl) [(1, .int iv2), (0, .ref (G.1 + al0))] (by decide) rfl ?_
  refine r_goto C dX12_lagoon_118 85 (by decide) ?_
  refine r_sub [1, 0] rfl ?_
  exact hK85 _ _ _ hw
def wb_X12_lagoon_85 (K85 : AH → Nat → Int32 → Prop) (h : AH) (al0 : Nat) (xl1 : Int32)  (post : AH → Int32 → Prop) : Prop := (370 ≤ xl1 → (∃ n, wl_X12_lagoon_123  post n h al0 0)) ∧ (¬ 370 ≤ xl1 → ((ob h al0 11) ∧ (∃ rv1, aP h al0 6 = some rv1 ∧ ((249 ≤ xl1 → (wb_X12_lagoon_114 K85 h al0 xl1 0 xl1 rv1 post)) ∧ (¬ 249 ≤ xl1 → ((ob h al0 11) ∧ (∃ rv2, aP h al0 7 = some rv2 ∧ ((ob h rv2 13) ∧ ((vp_in xl1 (aL h rv2)) ∧ (wb_X12_lagoon_114 K85 h al0 xl1 (aI h rv2 xl1.toNatClampNeg) xl1 rv1 post))))))))))
set_option maxRecDepth 100000 in
theorem tb_X12_lagoon_85 {G : GG} {p : Program} {l : Launch} {e : Env} {R : Room} {s : State} {m : MethodId} {args : Array Value} {below : List Frame} {meth : Method} {c : Code} {n0 s0 : Nat} {post : AH → Int32 → Prop} (C : Cx G p R s m args meth c 2 cX12_lagoon RX12 n0 s0 6 128) (hr : meth.sig.returnType = (some .int)) {K85 : AH → Nat → Int32 → Prop} (hK85 : ∀ (h : AH) (al0 : Nat) (xl1 : Int32), K85 h al0 xl1 → AW G p l e R s m args below meth c 2 (QM G (pI post) args s below n0 s0) 85 [(0, .ref (G.1 + al0)), (1, .int xl1)] [] h) {h : AH} {al0 : Nat} {xl1 : Int32}  (hw : wb_X12_lagoon_85 K85 h al0 xl1 post) : AW G p l e R s m args below meth c 2 (QM G (pI post) args s below n0 s0) 85 [(0, .ref (G.1 + al0)), (1, .int xl1)] [] h := by
  unfold wb_X12_lagoon_85 at hw
  refine r_iload_n C dX12_lagoon_85 1 rfl ?_
  refine r_sipush (v := 370) C dX12_lagoon_86 (by decide) ?_
  refine r_icmp_ge C dX12_lagoon_89 121 (by decide) (fun hc => ?_) (fun hc => ?_)
  · replace hw := hw.1 hc
    refine r_iconst (v := 0) C dX12_lagoon_121 (by decide) ?_
    refine r_istore_n C dX12_lagoon_122 [(1, .int 0), (0, .ref (G.1 + al0))] (by decide) rfl ?_
    refine r_sub [1, 0] rfl ?_
    obtain ⟨n, hw⟩ := hw
    exact tl_X12_lagoon_123 C hr  n _ _ _ hw
  · replace hw := hw.2 hc
    refine r_aload_n C dX12_lagoon_92 0 rfl ?_
    have hob := hw.1
    obtain ⟨rv1, hp, hw⟩ := hw.2
    refine r_getP C fl_RX12_33_11 hob hp (fun _ _ _ => rfl) dX12_lagoon_93 ?_
    refine r_iload_n C dX12_lagoon_96 1 rfl ?_
    refine r_iload_n C dX12_lagoon_97 1 rfl ?_
    refine r_sipush (v := 249) C dX12_lagoon_98 (by decide) ?_
    refine r_icmp_ge C dX12_lagoon_101 113 (by decide) (fun hc => ?_) (fun hc => ?_)
    · replace hw := hw.1 hc
      refine r_iconst (v := 0) C dX12_lagoon_113 (by decide) ?_
      refine r_sub [0, 1] rfl ?_
      exact tb_X12_lagoon_114 C hr hK85 hw
    · replace hw := hw.2 hc
      refine r_aload_n C dX12_lagoon_104 0 rfl ?_
      have hob := hw.1
      obtain ⟨rv2, hp, hw⟩ := hw.2
      refine r_getP C fl_RX12_37_11 hob hp (fun _ _ _ => rfl) dX12_lagoon_105 ?_
      refine r_iload_n C dX12_lagoon_108 1 rfl ?_
      refine r_iaload C hw.1 hw.2.1 dX12_lagoon_109 ?_
      replace hw := hw.2.2
      refine r_goto C dX12_lagoon_110 114 (by decide) ?_
      refine r_sub [0, 1] rfl ?_
      exact tb_X12_lagoon_114 C hr hK85 hw
def wl_X12_lagoon_85  (post : AH → Int32 → Prop) : Nat → AH → Nat → Int32 → Prop
  | 0 => fun _ _ _ => False
  | n + 1 => fun h al0 xl1 => wb_X12_lagoon_85  (wl_X12_lagoon_85  post n) h al0 xl1 post
theorem tl_X12_lagoon_85 {G : GG} {p : Program} {l : Launch} {e : Env} {R : Room} {s : State} {m : MethodId} {args : Array Value} {below : List Frame} {meth : Method} {c : Code} {n0 s0 : Nat} {post : AH → Int32 → Prop} (C : Cx G p R s m args meth c 2 cX12_lagoon RX12 n0 s0 6 128) (hr : meth.sig.returnType = (some .int))   : ∀ (n : Nat) (h : AH) (al0 : Nat) (xl1 : Int32), wl_X12_lagoon_85  post n h al0 xl1 → AW G p l e R s m args below meth c 2 (QM G (pI post) args s below n0 s0) 85 [(0, .ref (G.1 + al0)), (1, .int xl1)] [] h := by
  intro n
  induction n with
  | zero => intro h al0 xl1 hw; exact hw.elim
  | succ n ih => intro h al0 xl1 hw; exact tb_X12_lagoon_85 C hr  ih hw
def wb_X12_lagoon_63  (h : AH) (al0 : Nat)  (post : AH → Int32 → Prop) : Prop := (ob h al0 11) ∧ (post h ((-1 : Int32) - (aI h al0 16)))
set_option maxRecDepth 100000 in
theorem tb_X12_lagoon_63 {G : GG} {p : Program} {l : Launch} {e : Env} {R : Room} {s : State} {m : MethodId} {args : Array Value} {below : List Frame} {meth : Method} {c : Code} {n0 s0 : Nat} {post : AH → Int32 → Prop} (C : Cx G p R s m args meth c 2 cX12_lagoon RX12 n0 s0 6 128) (hr : meth.sig.returnType = (some .int))   {h : AH} {al0 : Nat}  (hw : wb_X12_lagoon_63  h al0 post) : AW G p l e R s m args below meth c 2 (QM G (pI post) args s below n0 s0) 63 [(0, .ref (G.1 + al0))] [] h := by
  unfold wb_X12_lagoon_63 at hw
  refine r_iconst (v := (-1)) C dX12_lagoon_63 (by decide) ?_
  refine r_aload_n C dX12_lagoon_64 0 rfl ?_
  refine r_getI C fl_RX12_184_11 hw.1 (fun _ _ _ => rfl) dX12_lagoon_65 ?_
  replace hw := hw.2
  refine r_isub C dX12_lagoon_68 ?_
  exact r_iret C hr dX12_lagoon_69 hw
def wb_X12_lagoon_40 (K40 : AH → Nat → Prop) (h : AH) (al0 : Nat)  (post : AH → Int32 → Prop) : Prop := (ob h al0 11) ∧ (((aI h al0 11) = 0 → (∃ n, wl_X12_lagoon_85  post n h al0 0)) ∧ (¬ (aI h al0 11) = 0 → ((ob h al0 11) ∧ wp_X12_line h al0  (fun hv1 iv2 => (iv2 = 0 → (wb_X12_lagoon_63  hv1 al0 post)) ∧ (¬ iv2 = 0 → ((ob hv1 al0 11) ∧ wp_X12_sign hv1 al0 59 (fun hv3 iv4 => (¬ iv4 = 0 → ((ob hv3 al0 11) ∧ ((ob hv3 al0 11) ∧ (∀ hv5 : AH, hv5 = hI hv3 al0 21 ((aI hv3 al0 21) + (1 : Int32)) → (K40 hv5 al0))))) ∧ (iv4 = 0 → (wb_X12_lagoon_63  hv3 al0 post)))))))))
set_option maxRecDepth 100000 in
theorem tb_X12_lagoon_40 {G : GG} {p : Program} {l : Launch} {e : Env} {R : Room} {s : State} {m : MethodId} {args : Array Value} {below : List Frame} {meth : Method} {c : Code} {n0 s0 : Nat} {post : AH → Int32 → Prop} (C : Cx G p R s m args meth c 2 cX12_lagoon RX12 n0 s0 6 128) (hr : meth.sig.returnType = (some .int)) {K40 : AH → Nat → Prop} (hK40 : ∀ (h : AH) (al0 : Nat), K40 h al0 → AW G p l e R s m args below meth c 2 (QM G (pI post) args s below n0 s0) 40 [(0, .ref (G.1 + al0))] [] h) {h : AH} {al0 : Nat}  (hw : wb_X12_lagoon_40 K40 h al0 post) : AW G p l e R s m args below meth c 2 (QM G (pI post) args s below n0 s0) 40 [(0, .ref (G.1 + al0))] [] h := by
  unfold wb_X12_lagoon_40 at hw
  refine r_aload_n C dX12_lagoon_40 0 rfl ?_
  refine r_getI C fl_RX12_164_11 hw.1 (fun _ _ _ => rfl) dX12_lagoon_41 ?_
  replace hw := hw.2
  refine r_if_eq C dX12_lagoon_44 83 (by decide) (fun hc => ?_) (fun hc => ?_)
  · replace hw := hw.1 hc
    refine r_iconst (v := 0) C dX12_lagoon_83 (by decide) ?_
    refine r_istore_n C dX12_lagoon_84 [(1, .int 0), (0, .ref (G.1 + al0))] (by decide) rfl ?_
    refine r_sub [1, 0] rfl ?_
    obtain ⟨n, hw⟩ := hw
    exact tl_X12_lagoon_85 C hr  n _ _ _ hw
  · replace hw := hw.2 hc
    refine r_aload_n C dX12_lagoon_47 0 rfl ?_
    have hob := hw.1
    replace hw := hw.2
    refine r_callV C (As := []) (rest := []) (c_X12_line G h al0  _ hw) yl_X12_line (gm7 (List.mem_of_getElem? (i := 165) rfl) rfl) (gm7 (List.mem_of_getElem? (i := 167) rfl) rfl) (ci := 11) rfl (by decide) (gsel (List.mem_of_getElem? (i := 43) rfl)) hob (by decide) rfl (Nat.le_of_ble_eq_true rfl) dX12_lagoon_48 rfl (kI fun hv1 iv2 hw => ?_)
    refine r_if_eq C dX12_lagoon_51 63 (by decide) (fun hc => ?_) (fun hc => ?_)
    · replace hw := hw.1 hc
      refine r_sub [0] rfl ?_
      exact tb_X12_lagoon_63 C hr  hw
    · replace hw := hw.2 hc
      refine r_aload_n C dX12_lagoon_54 0 rfl ?_
      refine r_bipush (v := 59) C dX12_lagoon_55 (by decide) ?_
      have hob := hw.1
      replace hw := hw.2
      refine r_callV C (As := [.int 59]) (rest := []) (c_X12_sign G hv1 al0 59 _ hw) yl_X12_sign (gm8 (List.mem_of_getElem? (i := 18) rfl) rfl) (gm8 (List.mem_of_getElem? (i := 20) rfl) rfl) (ci := 11) rfl (by decide) (gsel (List.mem_of_getElem? (i := 64) rfl)) hob (by decide) rfl (Nat.le_of_ble_eq_true rfl) dX12_lagoon_57 rfl (kI fun hv3 iv4 hw => ?_)
      refine r_if_ne C dX12_lagoon_60 70 (by decide) (fun hc => ?_) (fun hc => ?_)
      · replace hw := hw.1 hc
        refine r_aload_n C dX12_lagoon_70 0 rfl ?_
        refine r_dup C dX12_lagoon_71 rfl ?_
        refine r_getI C fl_RX12_278_11 hw.1 (fun _ _ _ => rfl) dX12_lagoon_72 ?_
        replace hw := hw.2
        refine r_iconst (v := 1) C dX12_lagoon_75 (by decide) ?_
        refine r_iadd C dX12_lagoon_76 ?_
        refine r_putI C fp_RX12_278_11 hw.1 rfl dX12_lagoon_77 ?_
        replace hw := hw.2
        refine r_toph fun hv5 ehv5 => ?_
        replace hw := hw hv5 ehv5
        refine r_goto C dX12_lagoon_80 40 (by decide) ?_
        refine r_sub [0] rfl ?_
        exact hK40 _ _ hw
      · replace hw := hw.2 hc
        refine r_sub [0] rfl ?_
        exact tb_X12_lagoon_63 C hr  hw
def wl_X12_lagoon_40  (post : AH → Int32 → Prop) : Nat → AH → Nat → Prop
  | 0 => fun _ _ => False
  | n + 1 => fun h al0 => wb_X12_lagoon_40  (wl_X12_lagoon_40  post n) h al0 post
theorem tl_X12_lagoon_40 {G : GG} {p : Program} {l : Launch} {e : Env} {R : Room} {s : State} {m : MethodId} {args : Array Value} {below : List Frame} {meth : Method} {c : Code} {n0 s0 : Nat} {post : AH → Int32 → Prop} (C : Cx G p R s m args meth c 2 cX12_lagoon RX12 n0 s0 6 128) (hr : meth.sig.returnType = (some .int))   : ∀ (n : Nat) (h : AH) (al0 : Nat), wl_X12_lagoon_40  post n h al0 → AW G p l e R s m args below meth c 2 (QM G (pI post) args s below n0 s0) 40 [(0, .ref (G.1 + al0))] [] h := by
  intro n
  induction n with
  | zero => intro h al0 hw; exact hw.elim
  | succ n ih => intro h al0 hw; exact tb_X12_lagoon_40 C hr  ih hw
def wp_X12_lagoon (h : AH) (a0 : Nat) (post : AH → Int32 → Prop) : Prop := (ob h a0 11) ∧ (∀ hv1 : AH, hv1 = hI h a0 0 0 → ((ob hv1 a0 11) ∧ wp_X12_taken hv1 a0 900 (fun hv2  => (ob hv2 a0 11) ∧ (∀ hv3 : AH, hv3 = hI hv2 a0 15 0 → ((ob hv3 a0 11) ∧ (∀ hv4 : AH, hv4 = hI hv3 a0 21 0 → ((ob hv4 a0 11) ∧ (∀ hv5 : AH, hv5 = hI hv4 a0 22 0 → ((ob hv5 a0 11) ∧ (((0 : Int32) = 0 ∨ (0 : Int32) = 1) ∧ (∀ hv6 : AH, hv6 = hI hv5 a0 23 0 → ((ob hv6 a0 11) ∧ wp_X12_plainLagoon hv6 a0  (fun hv7  => (ob hv7 a0 11) ∧ wp_X12_next hv7 a0  (fun hv8  => ∃ n, wl_X12_lagoon_40  post n hv8 a0))))))))))))))
set_option maxRecDepth 100000 in
theorem c_X12_lagoon (G : GG) (h : AH) (a0 : Nat) (post : AH → Int32 → Prop) (hw : wp_X12_lagoon h a0 post) : MC G yX12_lagoon cX12_lagoon 2 (some .int) 6 128 h [.ref (G.1 + a0)] (pI post) := by
  refine MC.of (lv := [(0, .ref (G.1 + a0))]) (by decide) (Nat.le_of_ble_eq_true rfl) rfl fun p l e R s m args below meth c C hr hnm => ?_
  unfold wp_X12_lagoon at hw
  refine r_aload_n C dX12_lagoon_0 0 rfl ?_
  refine r_iconst (v := 0) C dX12_lagoon_1 (by decide) ?_
  refine r_putI C fp_RX12_1_11 hw.1 rfl dX12_lagoon_2 ?_
  replace hw := hw.2
  refine r_toph fun hv1 ehv1 => ?_
  replace hw := hw hv1 ehv1
  refine r_aload_n C dX12_lagoon_5 0 rfl ?_
  refine r_sipush (v := 900) C dX12_lagoon_6 (by decide) ?_
  have hob := hw.1
  replace hw := hw.2
  refine r_callV C (As := [.int 900]) (rest := []) (c_X12_taken G hv1 a0 900 _ hw) yl_X12_taken (gm7 (List.mem_of_getElem? (i := 147) rfl) rfl) (gm7 (List.mem_of_getElem? (i := 149) rfl) rfl) (ci := 11) rfl (by decide) (gsel (List.mem_of_getElem? (i := 40) rfl)) hob (by decide) rfl (Nat.le_of_ble_eq_true rfl) dX12_lagoon_9 rfl (kV fun hv2  hw => ?_)
  refine r_aload_n C dX12_lagoon_12 0 rfl ?_
  refine r_iconst (v := 0) C dX12_lagoon_13 (by decide) ?_
  refine r_putI C fp_RX12_181_11 hw.1 rfl dX12_lagoon_14 ?_
  replace hw := hw.2
  refine r_toph fun hv3 ehv3 => ?_
  replace hw := hw hv3 ehv3
  refine r_aload_n C dX12_lagoon_17 0 rfl ?_
  refine r_iconst (v := 0) C dX12_lagoon_18 (by decide) ?_
  refine r_putI C fp_RX12_278_11 hw.1 rfl dX12_lagoon_19 ?_
  replace hw := hw.2
  refine r_toph fun hv4 ehv4 => ?_
  replace hw := hw hv4 ehv4
  refine r_aload_n C dX12_lagoon_22 0 rfl ?_
  refine r_iconst (v := 0) C dX12_lagoon_23 (by decide) ?_
  refine r_putI C fp_RX12_253_11 hw.1 rfl dX12_lagoon_24 ?_
  replace hw := hw.2
  refine r_toph fun hv5 ehv5 => ?_
  replace hw := hw hv5 ehv5
  refine r_aload_n C dX12_lagoon_27 0 rfl ?_
  refine r_iconst (v := 0) C dX12_lagoon_28 (by decide) ?_
  refine r_putZ C fp_RX12_265_11 hw.1 hw.2.1 rfl dX12_lagoon_29 ?_
  replace hw := hw.2.2
  refine r_toph fun hv6 ehv6 => ?_
  replace hw := hw hv6 ehv6
  refine r_aload_n C dX12_lagoon_32 0 rfl ?_
  have hob := hw.1
  replace hw := hw.2
  refine r_callV C (As := []) (rest := []) (c_X12_plainLagoon G hv6 a0  _ hw) yl_X12_plainLagoon (gm6 (List.mem_of_getElem? (i := 218) rfl) rfl) (gm6 (List.mem_of_getElem? (i := 220) rfl) rfl) (ci := 11) rfl (by decide) (gsel (List.mem_of_getElem? (i := 39) rfl)) hob (by decide) rfl (Nat.le_of_ble_eq_true rfl) dX12_lagoon_33 rfl (kV fun hv7  hw => ?_)
  refine r_aload_n C dX12_lagoon_36 0 rfl ?_
  have hob := hw.1
  replace hw := hw.2
  refine r_callV C (As := []) (rest := []) (c_X12_next G hv7 a0  _ hw) yl_X12_next (gm7 (List.mem_of_getElem? (i := 151) rfl) rfl) (gm7 (List.mem_of_getElem? (i := 153) rfl) rfl) (ci := 11) rfl (by decide) (gsel (List.mem_of_getElem? (i := 41) rfl)) hob (by decide) rfl (Nat.le_of_ble_eq_true rfl) dX12_lagoon_37 rfl (kV fun hv8  hw => ?_)
  refine r_sub [0] rfl ?_
  obtain ⟨n, hw⟩ := hw
  exact tl_X12_lagoon_40 C hr  n _ _ hw
theorem dX12_fault_0 : decode cX12_fault 0 = .ok (.aload_n 0, 1) := by decide +kernel
theorem dX12_fault_1 : decode cX12_fault 1 = .ok (.iconst 0, 1) := by decide +kernel
theorem dX12_fault_2 : decode cX12_fault 2 = .ok (.putfield 1, 3) := by decide +kernel
theorem dX12_fault_5 : decode cX12_fault 5 = .ok (.aload_n 0, 1) := by decide +kernel
theorem dX12_fault_6 : decode cX12_fault 6 = .ok (.getfield 181, 3) := by decide +kernel
theorem dX12_fault_9 : decode cX12_fault 9 = .ok (.ireturn, 1) := by decide +kernel
def wp_X12_fault (h : AH) (a0 : Nat) (post : AH → Int32 → Prop) : Prop := (ob h a0 11) ∧ (∀ hv1 : AH, hv1 = hI h a0 0 0 → ((ob hv1 a0 11) ∧ (post hv1 (aI hv1 a0 15))))
set_option maxRecDepth 100000 in
theorem c_X12_fault (G : GG) (h : AH) (a0 : Nat) (post : AH → Int32 → Prop) (hw : wp_X12_fault h a0 post) : MC G yX12_fault cX12_fault 1 (some .int) 0 0 h [.ref (G.1 + a0)] (pI post) := by
  refine MC.of (lv := [(0, .ref (G.1 + a0))]) (by decide) (Nat.le_of_ble_eq_true rfl) rfl fun p l e R s m args below meth c C hr hnm => ?_
  unfold wp_X12_fault at hw
  refine r_aload_n C dX12_fault_0 0 rfl ?_
  refine r_iconst (v := 0) C dX12_fault_1 (by decide) ?_
  refine r_putI C fp_RX12_1_11 hw.1 rfl dX12_fault_2 ?_
  replace hw := hw.2
  refine r_toph fun hv1 ehv1 => ?_
  replace hw := hw hv1 ehv1
  refine r_aload_n C dX12_fault_5 0 rfl ?_
  refine r_getI C fl_RX12_181_11 hw.1 (fun _ _ _ => rfl) dX12_fault_6 ?_
  replace hw := hw.2
  exact r_iret C hr dX12_fault_9 hw
theorem dX12_isCell_0 : decode cX12_isCell 0 = .ok (.iload_n 1, 1) := by decide +kernel
theorem dX12_isCell_1 : decode cX12_isCell 1 = .ok (.iconst 0, 1) := by decide +kernel
theorem dX12_isCell_2 : decode cX12_isCell 2 = .ok (.aload_n 0, 1) := by decide +kernel
theorem dX12_isCell_3 : decode cX12_isCell 3 = .ok (.getfield 33, 3) := by decide +kernel
theorem dX12_isCell_6 : decode cX12_isCell 6 = .ok (.iconst 0, 1) := by decide +kernel
theorem dX12_isCell_7 : decode cX12_isCell 7 = .ok (.iaload, 1) := by decide +kernel
theorem dX12_isCell_8 : decode cX12_isCell 8 = .ok (.iconst 1, 1) := by decide +kernel
theorem dX12_isCell_9 : decode cX12_isCell 9 = .ok (.isub, 1) := by decide +kernel
theorem dX12_isCell_10 : decode cX12_isCell 10 = .ok (.invokestatic 196, 3) := by decide +kernel
theorem dX12_isCell_13 : decode cX12_isCell 13 = .ok (.ifCond .eq 23, 3) := by decide +kernel
theorem dX12_isCell_16 : decode cX12_isCell 16 = .ok (.iload_n 2, 1) := by decide +kernel
theorem dX12_isCell_17 : decode cX12_isCell 17 = .ok (.iconst 0, 1) := by decide +kernel
theorem dX12_isCell_18 : decode cX12_isCell 18 = .ok (.aload_n 0, 1) := by decide +kernel
theorem dX12_isCell_19 : decode cX12_isCell 19 = .ok (.getfield 33, 3) := by decide +kernel
theorem dX12_isCell_22 : decode cX12_isCell 22 = .ok (.iconst 1, 1) := by decide +kernel
theorem dX12_isCell_23 : decode cX12_isCell 23 = .ok (.iaload, 1) := by decide +kernel
theorem dX12_isCell_24 : decode cX12_isCell 24 = .ok (.iconst 1, 1) := by decide +kernel
theorem dX12_isCell_25 : decode cX12_isCell 25 = .ok (.isub, 1) := by decide +kernel
theorem dX12_isCell_26 : decode cX12_isCell 26 = .ok (.invokestatic 196, 3) := by decide +kernel
theorem dX12_isCell_29 : decode cX12_isCell 29 = .ok (.ifCond .eq 7, 3) := by decide +kernel
theorem dX12_isCell_32 : decode cX12_isCell 32 = .ok (.iconst 1, 1) := by decide +kernel
theorem dX12_isCell_33 : decode cX12_isCell 33 = .ok (.goto 4, 3) := by decide +kernel
theorem dX12_isCell_36 : decode cX12_isCell 36 = .ok (.iconst 0, 1) := by decide +kernel
theorem dX12_isCell_37 : decode cX12_isCell 37 = .ok (.ireturn, 1) := by decide +kernel
def wp_X12_isCell (h : AH) (a0 : Nat) (x1 : Int32) (x2 : Int32) (post : AH → Int32 → Prop) : Prop := (ob h a0 11) ∧ (∃ rv1, aP h a0 6 = some rv1 ∧ ((ob h rv1 13) ∧ ((vp_in 0 (aL h rv1)) ∧ (wp_X12_isIn h x1 0 ((aI h rv1 (0 : Int32).toNatClampNeg) - (1 : Int32)) (fun hv2 iv3 => (iv3 = 0 → (((0 : Int32) = 0 ∨ (0 : Int32) = 1) ∧ post hv2 0)) ∧ (¬ iv3 = 0 → ((ob hv2 a0 11) ∧ (∃ rv4, aP hv2 a0 6 = some rv4 ∧ ((ob hv2 rv4 13) ∧ ((vp_in 1 (aL hv2 rv4)) ∧ (wp_X12_isIn hv2 x2 0 ((aI hv2 rv4 (1 : Int32).toNatClampNeg) - (1 : Int32)) (fun hv5 iv6 => (iv6 = 0 → (((0 : Int32) = 0 ∨ (0 : Int32) = 1) ∧ post hv5 0)) ∧ (¬ iv6 = 0 → (((1 : Int32) = 0 ∨ (1 : Int32) = 1) ∧ post hv5 1))))))))))))))
set_option maxRecDepth 100000 in
theorem c_X12_isCell (G : GG) (h : AH) (a0 : Nat) (x1 : Int32) (x2 : Int32) (post : AH → Int32 → Prop) (hw : wp_X12_isCell h a0 x1 x2 post) : MC G yX12_isCell cX12_isCell 3 (some .boolean) 1 22 h [.ref (G.1 + a0), .int x1, .int x2] (pI post) := by
  refine MC.of (lv := [(0, .ref (G.1 + a0)), (1, .int x1), (2, .int x2)]) (by decide) (Nat.le_of_ble_eq_true rfl) rfl fun p l e R s m args below meth c C hr hnm => ?_
  unfold wp_X12_isCell at hw
  refine r_iload_n C dX12_isCell_0 1 rfl ?_
  refine r_iconst (v := 0) C dX12_isCell_1 (by decide) ?_
  refine r_aload_n C dX12_isCell_2 0 rfl ?_
  have hob := hw.1
  obtain ⟨rv1, hp, hw⟩ := hw.2
  refine r_getP C fl_RX12_33_11 hob hp (fun _ _ _ => rfl) dX12_isCell_3 ?_
  refine r_iconst (v := 0) C dX12_isCell_6 (by decide) ?_
  refine r_iaload C hw.1 hw.2.1 dX12_isCell_7 ?_
  replace hw := hw.2.2
  refine r_iconst (v := 1) C dX12_isCell_8 (by decide) ?_
  refine r_isub C dX12_isCell_9 ?_
  refine r_callS C (As := [.int x1, .int 0, .int ((aI h rv1 (0 : Int32).toNatClampNeg) - (1 : Int32))]) (rest := []) (c_X12_isIn G h x1 0 ((aI h rv1 (0 : Int32).toNatClampNeg) - (1 : Int32)) _ hw) yl_X12_isIn (gm7 (List.mem_of_getElem? (i := 189) rfl) rfl) (gm7 (List.mem_of_getElem? (i := 190) rfl) rfl) (by decide) rfl (Nat.le_of_ble_eq_true rfl) dX12_isCell_10 rfl (kI fun hv2 iv3 hw => ?_)
  refine r_if_eq C dX12_isCell_13 36 (by decide) (fun hc => ?_) (fun hc => ?_)
  · replace hw := hw.1 hc
    refine r_iconst (v := 0) C dX12_isCell_36 (by decide) ?_
    exact r_zret C hr dX12_isCell_37 hw.1 hw.2
  · replace hw := hw.2 hc
    refine r_iload_n C dX12_isCell_16 2 rfl ?_
    refine r_iconst (v := 0) C dX12_isCell_17 (by decide) ?_
    refine r_aload_n C dX12_isCell_18 0 rfl ?_
    have hob := hw.1
    obtain ⟨rv4, hp, hw⟩ := hw.2
    refine r_getP C fl_RX12_33_11 hob hp (fun _ _ _ => rfl) dX12_isCell_19 ?_
    refine r_iconst (v := 1) C dX12_isCell_22 (by decide) ?_
    refine r_iaload C hw.1 hw.2.1 dX12_isCell_23 ?_
    replace hw := hw.2.2
    refine r_iconst (v := 1) C dX12_isCell_24 (by decide) ?_
    refine r_isub C dX12_isCell_25 ?_
    refine r_callS C (As := [.int x2, .int 0, .int ((aI hv2 rv4 (1 : Int32).toNatClampNeg) - (1 : Int32))]) (rest := []) (c_X12_isIn G hv2 x2 0 ((aI hv2 rv4 (1 : Int32).toNatClampNeg) - (1 : Int32)) _ hw) yl_X12_isIn (gm7 (List.mem_of_getElem? (i := 189) rfl) rfl) (gm7 (List.mem_of_getElem? (i := 190) rfl) rfl) (by decide) rfl (Nat.le_of_ble_eq_true rfl) dX12_isCell_26 rfl (kI fun hv5 iv6 hw => ?_)
    refine r_if_eq C dX12_isCell_29 36 (by decide) (fun hc => ?_) (fun hc => ?_)
    · replace hw := hw.1 hc
      refine r_iconst (v := 0) C dX12_isCell_36 (by decide) ?_
      exact r_zret C hr dX12_isCell_37 hw.1 hw.2
    · replace hw := hw.2 hc
      refine r_iconst (v := 1) C dX12_isCell_32 (by decide) ?_
      refine r_goto C dX12_isCell_33 37 (by decide) ?_
      exact r_zret C hr dX12_isCell_37 hw.1 hw.2
theorem dX12_isRaft_0 : decode cX12_isRaft 0 = .ok (.iload_n 1, 1) := by decide +kernel
theorem dX12_isRaft_1 : decode cX12_isRaft 1 = .ok (.iconst 0, 1) := by decide +kernel
theorem dX12_isRaft_2 : decode cX12_isRaft 2 = .ok (.aload_n 0, 1) := by decide +kernel
theorem dX12_isRaft_3 : decode cX12_isRaft 3 = .ok (.getfield 33, 3) := by decide +kernel
theorem dX12_isRaft_6 : decode cX12_isRaft 6 = .ok (.iconst 2, 1) := by decide +kernel
theorem dX12_isRaft_7 : decode cX12_isRaft 7 = .ok (.iaload, 1) := by decide +kernel
theorem dX12_isRaft_8 : decode cX12_isRaft 8 = .ok (.iconst 1, 1) := by decide +kernel
theorem dX12_isRaft_9 : decode cX12_isRaft 9 = .ok (.isub, 1) := by decide +kernel
theorem dX12_isRaft_10 : decode cX12_isRaft 10 = .ok (.invokestatic 196, 3) := by decide +kernel
theorem dX12_isRaft_13 : decode cX12_isRaft 13 = .ok (.ireturn, 1) := by decide +kernel
def wp_X12_isRaft (h : AH) (a0 : Nat) (x1 : Int32) (post : AH → Int32 → Prop) : Prop := (ob h a0 11) ∧ (∃ rv1, aP h a0 6 = some rv1 ∧ ((ob h rv1 13) ∧ ((vp_in 2 (aL h rv1)) ∧ (wp_X12_isIn h x1 0 ((aI h rv1 (2 : Int32).toNatClampNeg) - (1 : Int32)) (fun hv2 iv3 => (iv3 = 0 ∨ iv3 = 1) ∧ post hv2 iv3)))))
set_option maxRecDepth 100000 in
theorem c_X12_isRaft (G : GG) (h : AH) (a0 : Nat) (x1 : Int32) (post : AH → Int32 → Prop) (hw : wp_X12_isRaft h a0 x1 post) : MC G yX12_isRaft cX12_isRaft 2 (some .boolean) 1 22 h [.ref (G.1 + a0), .int x1] (pI post) := by
  refine MC.of (lv := [(0, .ref (G.1 + a0)), (1, .int x1)]) (by decide) (Nat.le_of_ble_eq_true rfl) rfl fun p l e R s m args below meth c C hr hnm => ?_
  unfold wp_X12_isRaft at hw
  refine r_iload_n C dX12_isRaft_0 1 rfl ?_
  refine r_iconst (v := 0) C dX12_isRaft_1 (by decide) ?_
  refine r_aload_n C dX12_isRaft_2 0 rfl ?_
  have hob := hw.1
  obtain ⟨rv1, hp, hw⟩ := hw.2
  refine r_getP C fl_RX12_33_11 hob hp (fun _ _ _ => rfl) dX12_isRaft_3 ?_
  refine r_iconst (v := 2) C dX12_isRaft_6 (by decide) ?_
  refine r_iaload C hw.1 hw.2.1 dX12_isRaft_7 ?_
  replace hw := hw.2.2
  refine r_iconst (v := 1) C dX12_isRaft_8 (by decide) ?_
  refine r_isub C dX12_isRaft_9 ?_
  refine r_callS C (As := [.int x1, .int 0, .int ((aI h rv1 (2 : Int32).toNatClampNeg) - (1 : Int32))]) (rest := []) (c_X12_isIn G h x1 0 ((aI h rv1 (2 : Int32).toNatClampNeg) - (1 : Int32)) _ hw) yl_X12_isIn (gm7 (List.mem_of_getElem? (i := 189) rfl) rfl) (gm7 (List.mem_of_getElem? (i := 190) rfl) rfl) (by decide) rfl (Nat.le_of_ble_eq_true rfl) dX12_isRaft_10 rfl (kI fun hv2 iv3 hw => ?_)
  exact r_zret C hr dX12_isRaft_13 hw.1 hw.2
theorem dX12_isHour_0 : decode cX12_isHour 0 = .ok (.iload_n 0, 1) := by decide +kernel
theorem dX12_isHour_1 : decode cX12_isHour 1 = .ok (.iconst 0, 1) := by decide +kernel
theorem dX12_isHour_2 : decode cX12_isHour 2 = .ok (.bipush 23, 2) := by decide +kernel
theorem dX12_isHour_4 : decode cX12_isHour 4 = .ok (.invokestatic 196, 3) := by decide +kernel
theorem dX12_isHour_7 : decode cX12_isHour 7 = .ok (.ireturn, 1) := by decide +kernel
def wp_X12_isHour (h : AH) (x0 : Int32) (post : AH → Int32 → Prop) : Prop := wp_X12_isIn h x0 0 23 (fun hv1 iv2 => (iv2 = 0 ∨ iv2 = 1) ∧ post hv1 iv2)
set_option maxRecDepth 100000 in
theorem c_X12_isHour (G : GG) (h : AH) (x0 : Int32) (post : AH → Int32 → Prop) (hw : wp_X12_isHour h x0 post) : MC G yX12_isHour cX12_isHour 1 (some .boolean) 1 22 h [.int x0] (pI post) := by
  refine MC.of (lv := [(0, .int x0)]) (by decide) (Nat.le_of_ble_eq_true rfl) rfl fun p l e R s m args below meth c C hr hnm => ?_
  unfold wp_X12_isHour at hw
  refine r_iload_n C dX12_isHour_0 0 rfl ?_
  refine r_iconst (v := 0) C dX12_isHour_1 (by decide) ?_
  refine r_bipush (v := 23) C dX12_isHour_2 (by decide) ?_
  refine r_callS C (As := [.int x0, .int 0, .int 23]) (rest := []) (c_X12_isIn G h x0 0 23 _ hw) yl_X12_isIn (gm7 (List.mem_of_getElem? (i := 189) rfl) rfl) (gm7 (List.mem_of_getElem? (i := 190) rfl) rfl) (by decide) rfl (Nat.le_of_ble_eq_true rfl) dX12_isHour_4 rfl (kI fun hv1 iv2 hw => ?_)
  exact r_zret C hr dX12_isHour_7 hw.1 hw.2
theorem dX12_deep_0 : decode cX12_deep 0 = .ok (.aload_n 0, 1) := by decide +kernel
theorem dX12_deep_1 : decode cX12_deep 1 = .ok (.getfield 33, 3) := by decide +kernel
theorem dX12_deep_4 : decode cX12_deep 4 = .ok (.bipush 75, 2) := by decide +kernel
theorem dX12_deep_6 : decode cX12_deep 6 = .ok (.iload_n 3, 1) := by decide +kernel
theorem dX12_deep_7 : decode cX12_deep 7 = .ok (.iadd, 1) := by decide +kernel
theorem dX12_deep_8 : decode cX12_deep 8 = .ok (.iaload, 1) := by decide +kernel
theorem dX12_deep_9 : decode cX12_deep 9 = .ok (.aload_n 0, 1) := by decide +kernel
theorem dX12_deep_10 : decode cX12_deep 10 = .ok (.getfield 33, 3) := by decide +kernel
theorem dX12_deep_13 : decode cX12_deep 13 = .ok (.bipush 11, 2) := by decide +kernel
theorem dX12_deep_15 : decode cX12_deep 15 = .ok (.bipush 8, 2) := by decide +kernel
theorem dX12_deep_17 : decode cX12_deep 17 = .ok (.iload_n 2, 1) := by decide +kernel
theorem dX12_deep_18 : decode cX12_deep 18 = .ok (.imul, 1) := by decide +kernel
theorem dX12_deep_19 : decode cX12_deep 19 = .ok (.iadd, 1) := by decide +kernel
theorem dX12_deep_20 : decode cX12_deep 20 = .ok (.iload_n 1, 1) := by decide +kernel
theorem dX12_deep_21 : decode cX12_deep 21 = .ok (.iadd, 1) := by decide +kernel
theorem dX12_deep_22 : decode cX12_deep 22 = .ok (.iaload, 1) := by decide +kernel
theorem dX12_deep_23 : decode cX12_deep 23 = .ok (.isub, 1) := by decide +kernel
theorem dX12_deep_24 : decode cX12_deep 24 = .ok (.istore 4, 2) := by decide +kernel
theorem dX12_deep_26 : decode cX12_deep 26 = .ok (.iload 4, 2) := by decide +kernel
theorem dX12_deep_28 : decode cX12_deep 28 = .ok (.ifCond .ge 7, 3) := by decide +kernel
theorem dX12_deep_31 : decode cX12_deep 31 = .ok (.iconst 0, 1) := by decide +kernel
theorem dX12_deep_32 : decode cX12_deep 32 = .ok (.goto 5, 3) := by decide +kernel
theorem dX12_deep_35 : decode cX12_deep 35 = .ok (.iload 4, 2) := by decide +kernel
theorem dX12_deep_37 : decode cX12_deep 37 = .ok (.ireturn, 1) := by decide +kernel
def wp_X12_deep (h : AH) (a0 : Nat) (x1 : Int32) (x2 : Int32) (x3 : Int32) (post : AH → Int32 → Prop) : Prop := (ob h a0 11) ∧ (∃ rv1, aP h a0 6 = some rv1 ∧ ((ob h rv1 13) ∧ ((vp_in ((75 : Int32) + x3) (aL h rv1)) ∧ ((ob h a0 11) ∧ (∃ rv2, aP h a0 6 = some rv2 ∧ ((ob h rv2 13) ∧ ((vp_in (((11 : Int32) + ((8 : Int32) * x2)) + x1) (aL h rv2)) ∧ (∀ iv3 : Int32, iv3 = (aI h rv1 ((75 : Int32) + x3).toNatClampNeg) - (aI h rv2 (((11 : Int32) + ((8 : Int32) * x2)) + x1).toNatClampNeg) → ((0 ≤ iv3 → (post h iv3)) ∧ (¬ 0 ≤ iv3 → (post h 0)))))))))))
set_option maxRecDepth 100000 in
theorem c_X12_deep (G : GG) (h : AH) (a0 : Nat) (x1 : Int32) (x2 : Int32) (x3 : Int32) (post : AH → Int32 → Prop) (hw : wp_X12_deep h a0 x1 x2 x3 post) : MC G yX12_deep cX12_deep 5 (some .int) 0 0 h [.ref (G.1 + a0), .int x1, .int x2, .int x3] (pI post) := by
  refine MC.of (lv := [(0, .ref (G.1 + a0)), (1, .int x1), (2, .int x2), (3, .int x3)]) (by decide) (Nat.le_of_ble_eq_true rfl) rfl fun p l e R s m args below meth c C hr hnm => ?_
  unfold wp_X12_deep at hw
  refine r_aload_n C dX12_deep_0 0 rfl ?_
  have hob := hw.1
  obtain ⟨rv1, hp, hw⟩ := hw.2
  refine r_getP C fl_RX12_33_11 hob hp (fun _ _ _ => rfl) dX12_deep_1 ?_
  refine r_bipush (v := 75) C dX12_deep_4 (by decide) ?_
  refine r_iload_n C dX12_deep_6 3 rfl ?_
  refine r_iadd C dX12_deep_7 ?_
  refine r_iaload C hw.1 hw.2.1 dX12_deep_8 ?_
  replace hw := hw.2.2
  refine r_aload_n C dX12_deep_9 0 rfl ?_
  have hob := hw.1
  obtain ⟨rv2, hp, hw⟩ := hw.2
  refine r_getP C fl_RX12_33_11 hob hp (fun _ _ _ => rfl) dX12_deep_10 ?_
  refine r_bipush (v := 11) C dX12_deep_13 (by decide) ?_
  refine r_bipush (v := 8) C dX12_deep_15 (by decide) ?_
  refine r_iload_n C dX12_deep_17 2 rfl ?_
  refine r_imul C dX12_deep_18 ?_
  refine r_iadd C dX12_deep_19 ?_
  refine r_iload_n C dX12_deep_20 1 rfl ?_
  refine r_iadd C dX12_deep_21 ?_
  refine r_iaload C hw.1 hw.2.1 dX12_deep_22 ?_
  replace hw := hw.2.2
  refine r_isub C dX12_deep_23 ?_
  refine r_topi fun iv3 eiv3 => ?_
  replace hw := hw iv3 eiv3
  refine r_istore C dX12_deep_24 [(4, .int iv3), (0, .ref (G.1 + a0)), (1, .int x1), (2, .int x2), (3, .int x3)] (by decide) rfl ?_
  refine r_iload C dX12_deep_26 0 rfl ?_
  refine r_if_ge C dX12_deep_28 35 (by decide) (fun hc => ?_) (fun hc => ?_)
  · replace hw := hw.1 hc
    refine r_iload C dX12_deep_35 0 rfl ?_
    exact r_iret C hr dX12_deep_37 hw
  · replace hw := hw.2 hc
    refine r_iconst (v := 0) C dX12_deep_31 (by decide) ?_
    refine r_goto C dX12_deep_32 37 (by decide) ?_
    exact r_iret C hr dX12_deep_37 hw
