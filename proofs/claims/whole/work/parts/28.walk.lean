theorem yl_X12_areBeside : YL yX12_areBeside cX12_areBeside 7 (some .boolean) 2 := ⟨(gm8 (List.mem_of_getElem? (i := 152) rfl) rfl), (gm1 (List.mem_of_getElem? (i := 18) rfl) rfl), by decide, by decide, by decide +kernel⟩
theorem yl_X12_hasSun : YL yX12_hasSun cX12_hasSun 6 (some .boolean) 2 := ⟨(gm8 (List.mem_of_getElem? (i := 156) rfl) rfl), (gm1 (List.mem_of_getElem? (i := 18) rfl) rfl), by decide, by decide, by decide +kernel⟩
theorem yl_X12_isSo : YL yX12_isSo cX12_isSo 4 (some .boolean) 1 := ⟨(gm8 (List.mem_of_getElem? (i := 148) rfl) rfl), (gm1 (List.mem_of_getElem? (i := 18) rfl) rfl), by decide, by decide, by decide +kernel⟩
theorem yl_X12_soNow : YL yX12_soNow cX12_soNow 3 (some .int) 0 := ⟨(gm8 (List.mem_of_getElem? (i := 160) rfl) rfl), (gm1 (List.mem_of_getElem? (i := 18) rfl) rfl), by decide, by decide, by decide +kernel⟩
theorem yl_X12_met : YL yX12_met cX12_met 3 (some .int) 0 := ⟨(gm8 (List.mem_of_getElem? (i := 144) rfl) rfl), (gm1 (List.mem_of_getElem? (i := 18) rfl) rfl), by decide, by decide, by decide +kernel⟩
theorem fl_RX12_368_11 : FL RX12 368 11 27 := ⟨RX12, RX12, TX12, 53, ci11, by decide, (gm7 (List.mem_of_getElem? (i := 9) rfl) rfl), Or.inl rfl⟩
theorem fl_RX12_40_11 : FL RX12 40 11 8 := ⟨RX12, RX12, TX12, 53, ci11, by decide, (gm6 (List.mem_of_getElem? (i := 230) rfl) rfl), Or.inl rfl⟩
theorem fp_RX12_368_11 : FP RX12 368 11 27 := ⟨RX12, RX12, TX12, 53, ci11, by decide, (gm7 (List.mem_of_getElem? (i := 9) rfl) rfl), Or.inl rfl, rfl⟩
theorem yl_X12_act : YL yX12_act cX12_act 2 (some .boolean) 0 := ⟨(gm8 (List.mem_of_getElem? (i := 168) rfl) rfl), (gm1 (List.mem_of_getElem? (i := 18) rfl) rfl), by decide, by decide, by decide +kernel⟩
theorem fl_RX12_374_11 : FL RX12 374 11 28 := ⟨RX12, RX12, TX12, 53, ci11, by decide, (gm7 (List.mem_of_getElem? (i := 10) rfl) rfl), Or.inl rfl⟩
theorem fl_RX12_377_11 : FL RX12 377 11 29 := ⟨RX12, RX12, TX12, 53, ci11, by decide, (gm7 (List.mem_of_getElem? (i := 11) rfl) rfl), Or.inl rfl⟩
theorem fp_RX12_377_11 : FP RX12 377 11 29 := ⟨RX12, RX12, TX12, 53, ci11, by decide, (gm7 (List.mem_of_getElem? (i := 11) rfl) rfl), Or.inl rfl, rfl⟩
theorem fl_RX12_380_11 : FL RX12 380 11 30 := ⟨RX12, RX12, TX12, 53, ci11, by decide, (gm7 (List.mem_of_getElem? (i := 12) rfl) rfl), Or.inl rfl⟩
theorem fp_RX12_380_11 : FP RX12 380 11 30 := ⟨RX12, RX12, TX12, 53, ci11, by decide, (gm7 (List.mem_of_getElem? (i := 12) rfl) rfl), Or.inl rfl, rfl⟩
theorem fp_RX12_374_11 : FP RX12 374 11 28 := ⟨RX12, RX12, TX12, 53, ci11, by decide, (gm7 (List.mem_of_getElem? (i := 10) rfl) rfl), Or.inl rfl, rfl⟩
theorem fp_RX12_383_11 : FP RX12 383 11 31 := ⟨RX12, RX12, TX12, 53, ci11, by decide, (gm7 (List.mem_of_getElem? (i := 13) rfl) rfl), Or.inl rfl, rfl⟩
theorem yl_X12_isBusyTown : YL yX12_isBusyTown cX12_isBusyTown 4 (some .boolean) 0 := ⟨(gm8 (List.mem_of_getElem? (i := 187) rfl) rfl), (gm1 (List.mem_of_getElem? (i := 18) rfl) rfl), by decide, by decide, by decide +kernel⟩
theorem fl_RX12_383_11 : FL RX12 383 11 31 := ⟨RX12, RX12, TX12, 53, ci11, by decide, (gm7 (List.mem_of_getElem? (i := 13) rfl) rfl), Or.inl rfl⟩
theorem yl_X12_passes : YL yX12_passes cX12_passes 5 none 3 := ⟨(gm8 (List.mem_of_getElem? (i := 191) rfl) rfl), (gm1 (List.mem_of_getElem? (i := 18) rfl) rfl), by decide, by decide, by decide +kernel⟩
theorem yl_X12_isQuarter : YL yX12_isQuarter cX12_isQuarter 1 (some .boolean) 1 := ⟨(gm8 (List.mem_of_getElem? (i := 179) rfl) rfl), (gm1 (List.mem_of_getElem? (i := 18) rfl) rfl), by decide, by decide, by decide +kernel⟩
theorem yl_X12_run : YL yX12_run cX12_run 8 (some .int) 3 := ⟨(gm8 (List.mem_of_getElem? (i := 183) rfl) rfl), (gm1 (List.mem_of_getElem? (i := 18) rfl) rfl), by decide, by decide, by decide +kernel⟩
theorem fl_RX12_59_11 : FL RX12 59 11 32 := ⟨RX12, RX12, TX12, 53, ci11, by decide, (gm7 (List.mem_of_getElem? (i := 14) rfl) rfl), Or.inl rfl⟩
theorem fl_RX12_62_11 : FL RX12 62 11 33 := ⟨RX12, RX12, TX12, 53, ci11, by decide, (gm7 (List.mem_of_getElem? (i := 15) rfl) rfl), Or.inl rfl⟩
theorem fl_RX12_65_11 : FL RX12 65 11 34 := ⟨RX12, RX12, TX12, 53, ci11, by decide, (gm7 (List.mem_of_getElem? (i := 16) rfl) rfl), Or.inl rfl⟩
theorem dX12_areBeside_0 : decode cX12_areBeside 0 = .ok (.aload_n 0, 1) := by decide +kernel
theorem dX12_areBeside_1 : decode cX12_areBeside 1 = .ok (.getfield 50, 3) := by decide +kernel
theorem dX12_areBeside_4 : decode cX12_areBeside 4 = .ok (.iconst 3, 1) := by decide +kernel
theorem dX12_areBeside_5 : decode cX12_areBeside 5 = .ok (.iload_n 1, 1) := by decide +kernel
theorem dX12_areBeside_6 : decode cX12_areBeside 6 = .ok (.imul, 1) := by decide +kernel
theorem dX12_areBeside_7 : decode cX12_areBeside 7 = .ok (.iaload, 1) := by decide +kernel
theorem dX12_areBeside_8 : decode cX12_areBeside 8 = .ok (.aload_n 0, 1) := by decide +kernel
theorem dX12_areBeside_9 : decode cX12_areBeside 9 = .ok (.iload_n 1, 1) := by decide +kernel
theorem dX12_areBeside_10 : decode cX12_areBeside 10 = .ok (.invokevirtual 297, 3) := by decide +kernel
theorem dX12_areBeside_13 : decode cX12_areBeside 13 = .ok (.aload_n 0, 1) := by decide +kernel
theorem dX12_areBeside_14 : decode cX12_areBeside 14 = .ok (.getfield 50, 3) := by decide +kernel
theorem dX12_areBeside_17 : decode cX12_areBeside 17 = .ok (.iconst 3, 1) := by decide +kernel
theorem dX12_areBeside_18 : decode cX12_areBeside 18 = .ok (.iload_n 2, 1) := by decide +kernel
theorem dX12_areBeside_19 : decode cX12_areBeside 19 = .ok (.imul, 1) := by decide +kernel
theorem dX12_areBeside_20 : decode cX12_areBeside 20 = .ok (.iaload, 1) := by decide +kernel
theorem dX12_areBeside_21 : decode cX12_areBeside 21 = .ok (.aload_n 0, 1) := by decide +kernel
theorem dX12_areBeside_22 : decode cX12_areBeside 22 = .ok (.iload_n 2, 1) := by decide +kernel
theorem dX12_areBeside_23 : decode cX12_areBeside 23 = .ok (.invokevirtual 297, 3) := by decide +kernel
theorem dX12_areBeside_26 : decode cX12_areBeside 26 = .ok (.invokestatic 303, 3) := by decide +kernel
theorem dX12_areBeside_29 : decode cX12_areBeside 29 = .ok (.istore_n 3, 1) := by decide +kernel
theorem dX12_areBeside_30 : decode cX12_areBeside 30 = .ok (.aload_n 0, 1) := by decide +kernel
theorem dX12_areBeside_31 : decode cX12_areBeside 31 = .ok (.getfield 50, 3) := by decide +kernel
theorem dX12_areBeside_34 : decode cX12_areBeside 34 = .ok (.iconst 3, 1) := by decide +kernel
theorem dX12_areBeside_35 : decode cX12_areBeside 35 = .ok (.iload_n 1, 1) := by decide +kernel
theorem dX12_areBeside_36 : decode cX12_areBeside 36 = .ok (.imul, 1) := by decide +kernel
theorem dX12_areBeside_37 : decode cX12_areBeside 37 = .ok (.iconst 1, 1) := by decide +kernel
theorem dX12_areBeside_38 : decode cX12_areBeside 38 = .ok (.iadd, 1) := by decide +kernel
theorem dX12_areBeside_39 : decode cX12_areBeside 39 = .ok (.iaload, 1) := by decide +kernel
theorem dX12_areBeside_40 : decode cX12_areBeside 40 = .ok (.aload_n 0, 1) := by decide +kernel
theorem dX12_areBeside_41 : decode cX12_areBeside 41 = .ok (.iload_n 1, 1) := by decide +kernel
theorem dX12_areBeside_42 : decode cX12_areBeside 42 = .ok (.invokevirtual 300, 3) := by decide +kernel
theorem dX12_areBeside_45 : decode cX12_areBeside 45 = .ok (.aload_n 0, 1) := by decide +kernel
theorem dX12_areBeside_46 : decode cX12_areBeside 46 = .ok (.getfield 50, 3) := by decide +kernel
theorem dX12_areBeside_49 : decode cX12_areBeside 49 = .ok (.iconst 3, 1) := by decide +kernel
theorem dX12_areBeside_50 : decode cX12_areBeside 50 = .ok (.iload_n 2, 1) := by decide +kernel
theorem dX12_areBeside_51 : decode cX12_areBeside 51 = .ok (.imul, 1) := by decide +kernel
theorem dX12_areBeside_52 : decode cX12_areBeside 52 = .ok (.iconst 1, 1) := by decide +kernel
theorem dX12_areBeside_53 : decode cX12_areBeside 53 = .ok (.iadd, 1) := by decide +kernel
theorem dX12_areBeside_54 : decode cX12_areBeside 54 = .ok (.iaload, 1) := by decide +kernel
theorem dX12_areBeside_55 : decode cX12_areBeside 55 = .ok (.aload_n 0, 1) := by decide +kernel
theorem dX12_areBeside_56 : decode cX12_areBeside 56 = .ok (.iload_n 2, 1) := by decide +kernel
theorem dX12_areBeside_57 : decode cX12_areBeside 57 = .ok (.invokevirtual 300, 3) := by decide +kernel
theorem dX12_areBeside_60 : decode cX12_areBeside 60 = .ok (.invokestatic 303, 3) := by decide +kernel
theorem dX12_areBeside_63 : decode cX12_areBeside 63 = .ok (.istore 4, 2) := by decide +kernel
theorem dX12_areBeside_65 : decode cX12_areBeside 65 = .ok (.aload_n 0, 1) := by decide +kernel
theorem dX12_areBeside_66 : decode cX12_areBeside 66 = .ok (.getfield 50, 3) := by decide +kernel
theorem dX12_areBeside_69 : decode cX12_areBeside 69 = .ok (.iconst 3, 1) := by decide +kernel
theorem dX12_areBeside_70 : decode cX12_areBeside 70 = .ok (.iload_n 1, 1) := by decide +kernel
theorem dX12_areBeside_71 : decode cX12_areBeside 71 = .ok (.imul, 1) := by decide +kernel
theorem dX12_areBeside_72 : decode cX12_areBeside 72 = .ok (.iaload, 1) := by decide +kernel
theorem dX12_areBeside_73 : decode cX12_areBeside 73 = .ok (.aload_n 0, 1) := by decide +kernel
theorem dX12_areBeside_74 : decode cX12_areBeside 74 = .ok (.getfield 50, 3) := by decide +kernel
theorem dX12_areBeside_77 : decode cX12_areBeside 77 = .ok (.iconst 3, 1) := by decide +kernel
theorem dX12_areBeside_78 : decode cX12_areBeside 78 = .ok (.iload_n 2, 1) := by decide +kernel
theorem dX12_areBeside_79 : decode cX12_areBeside 79 = .ok (.imul, 1) := by decide +kernel
theorem dX12_areBeside_80 : decode cX12_areBeside 80 = .ok (.iaload, 1) := by decide +kernel
theorem dX12_areBeside_81 : decode cX12_areBeside 81 = .ok (.aload_n 0, 1) := by decide +kernel
theorem dX12_areBeside_82 : decode cX12_areBeside 82 = .ok (.iload_n 2, 1) := by decide +kernel
theorem dX12_areBeside_83 : decode cX12_areBeside 83 = .ok (.invokevirtual 297, 3) := by decide +kernel
theorem dX12_areBeside_86 : decode cX12_areBeside 86 = .ok (.iadd, 1) := by decide +kernel
theorem dX12_areBeside_87 : decode cX12_areBeside 87 = .ok (.if_icmp .ge 32, 3) := by decide +kernel
theorem dX12_areBeside_90 : decode cX12_areBeside 90 = .ok (.aload_n 0, 1) := by decide +kernel
theorem dX12_areBeside_91 : decode cX12_areBeside 91 = .ok (.getfield 50, 3) := by decide +kernel
theorem dX12_areBeside_94 : decode cX12_areBeside 94 = .ok (.iconst 3, 1) := by decide +kernel
theorem dX12_areBeside_95 : decode cX12_areBeside 95 = .ok (.iload_n 2, 1) := by decide +kernel
theorem dX12_areBeside_96 : decode cX12_areBeside 96 = .ok (.imul, 1) := by decide +kernel
theorem dX12_areBeside_97 : decode cX12_areBeside 97 = .ok (.iaload, 1) := by decide +kernel
theorem dX12_areBeside_98 : decode cX12_areBeside 98 = .ok (.aload_n 0, 1) := by decide +kernel
theorem dX12_areBeside_99 : decode cX12_areBeside 99 = .ok (.getfield 50, 3) := by decide +kernel
theorem dX12_areBeside_102 : decode cX12_areBeside 102 = .ok (.iconst 3, 1) := by decide +kernel
theorem dX12_areBeside_103 : decode cX12_areBeside 103 = .ok (.iload_n 1, 1) := by decide +kernel
theorem dX12_areBeside_104 : decode cX12_areBeside 104 = .ok (.imul, 1) := by decide +kernel
theorem dX12_areBeside_105 : decode cX12_areBeside 105 = .ok (.iaload, 1) := by decide +kernel
theorem dX12_areBeside_106 : decode cX12_areBeside 106 = .ok (.aload_n 0, 1) := by decide +kernel
theorem dX12_areBeside_107 : decode cX12_areBeside 107 = .ok (.iload_n 1, 1) := by decide +kernel
theorem dX12_areBeside_108 : decode cX12_areBeside 108 = .ok (.invokevirtual 297, 3) := by decide +kernel
theorem dX12_areBeside_111 : decode cX12_areBeside 111 = .ok (.iadd, 1) := by decide +kernel
theorem dX12_areBeside_112 : decode cX12_areBeside 112 = .ok (.if_icmp .ge 7, 3) := by decide +kernel
theorem dX12_areBeside_115 : decode cX12_areBeside 115 = .ok (.iconst 1, 1) := by decide +kernel
theorem dX12_areBeside_116 : decode cX12_areBeside 116 = .ok (.goto 4, 3) := by decide +kernel
theorem dX12_areBeside_119 : decode cX12_areBeside 119 = .ok (.iconst 0, 1) := by decide +kernel
theorem dX12_areBeside_120 : decode cX12_areBeside 120 = .ok (.istore 5, 2) := by decide +kernel
theorem dX12_areBeside_122 : decode cX12_areBeside 122 = .ok (.aload_n 0, 1) := by decide +kernel
theorem dX12_areBeside_123 : decode cX12_areBeside 123 = .ok (.getfield 50, 3) := by decide +kernel
theorem dX12_areBeside_126 : decode cX12_areBeside 126 = .ok (.iconst 3, 1) := by decide +kernel
theorem dX12_areBeside_127 : decode cX12_areBeside 127 = .ok (.iload_n 1, 1) := by decide +kernel
theorem dX12_areBeside_128 : decode cX12_areBeside 128 = .ok (.imul, 1) := by decide +kernel
theorem dX12_areBeside_129 : decode cX12_areBeside 129 = .ok (.iconst 1, 1) := by decide +kernel
theorem dX12_areBeside_130 : decode cX12_areBeside 130 = .ok (.iadd, 1) := by decide +kernel
theorem dX12_areBeside_131 : decode cX12_areBeside 131 = .ok (.iaload, 1) := by decide +kernel
theorem dX12_areBeside_132 : decode cX12_areBeside 132 = .ok (.aload_n 0, 1) := by decide +kernel
theorem dX12_areBeside_133 : decode cX12_areBeside 133 = .ok (.getfield 50, 3) := by decide +kernel
theorem dX12_areBeside_136 : decode cX12_areBeside 136 = .ok (.iconst 3, 1) := by decide +kernel
theorem dX12_areBeside_137 : decode cX12_areBeside 137 = .ok (.iload_n 2, 1) := by decide +kernel
theorem dX12_areBeside_138 : decode cX12_areBeside 138 = .ok (.imul, 1) := by decide +kernel
theorem dX12_areBeside_139 : decode cX12_areBeside 139 = .ok (.iconst 1, 1) := by decide +kernel
theorem dX12_areBeside_140 : decode cX12_areBeside 140 = .ok (.iadd, 1) := by decide +kernel
theorem dX12_areBeside_141 : decode cX12_areBeside 141 = .ok (.iaload, 1) := by decide +kernel
theorem dX12_areBeside_142 : decode cX12_areBeside 142 = .ok (.aload_n 0, 1) := by decide +kernel
theorem dX12_areBeside_143 : decode cX12_areBeside 143 = .ok (.iload_n 2, 1) := by decide +kernel
theorem dX12_areBeside_144 : decode cX12_areBeside 144 = .ok (.invokevirtual 300, 3) := by decide +kernel
theorem dX12_areBeside_147 : decode cX12_areBeside 147 = .ok (.iadd, 1) := by decide +kernel
theorem dX12_areBeside_148 : decode cX12_areBeside 148 = .ok (.if_icmp .ge 36, 3) := by decide +kernel
theorem dX12_areBeside_151 : decode cX12_areBeside 151 = .ok (.aload_n 0, 1) := by decide +kernel
theorem dX12_areBeside_152 : decode cX12_areBeside 152 = .ok (.getfield 50, 3) := by decide +kernel
theorem dX12_areBeside_155 : decode cX12_areBeside 155 = .ok (.iconst 3, 1) := by decide +kernel
theorem dX12_areBeside_156 : decode cX12_areBeside 156 = .ok (.iload_n 2, 1) := by decide +kernel
theorem dX12_areBeside_157 : decode cX12_areBeside 157 = .ok (.imul, 1) := by decide +kernel
theorem dX12_areBeside_158 : decode cX12_areBeside 158 = .ok (.iconst 1, 1) := by decide +kernel
theorem dX12_areBeside_159 : decode cX12_areBeside 159 = .ok (.iadd, 1) := by decide +kernel
theorem dX12_areBeside_160 : decode cX12_areBeside 160 = .ok (.iaload, 1) := by decide +kernel
theorem dX12_areBeside_161 : decode cX12_areBeside 161 = .ok (.aload_n 0, 1) := by decide +kernel
theorem dX12_areBeside_162 : decode cX12_areBeside 162 = .ok (.getfield 50, 3) := by decide +kernel
theorem dX12_areBeside_165 : decode cX12_areBeside 165 = .ok (.iconst 3, 1) := by decide +kernel
theorem dX12_areBeside_166 : decode cX12_areBeside 166 = .ok (.iload_n 1, 1) := by decide +kernel
theorem dX12_areBeside_167 : decode cX12_areBeside 167 = .ok (.imul, 1) := by decide +kernel
theorem dX12_areBeside_168 : decode cX12_areBeside 168 = .ok (.iconst 1, 1) := by decide +kernel
theorem dX12_areBeside_169 : decode cX12_areBeside 169 = .ok (.iadd, 1) := by decide +kernel
theorem dX12_areBeside_170 : decode cX12_areBeside 170 = .ok (.iaload, 1) := by decide +kernel
theorem dX12_areBeside_171 : decode cX12_areBeside 171 = .ok (.aload_n 0, 1) := by decide +kernel
theorem dX12_areBeside_172 : decode cX12_areBeside 172 = .ok (.iload_n 1, 1) := by decide +kernel
theorem dX12_areBeside_173 : decode cX12_areBeside 173 = .ok (.invokevirtual 300, 3) := by decide +kernel
theorem dX12_areBeside_176 : decode cX12_areBeside 176 = .ok (.iadd, 1) := by decide +kernel
theorem dX12_areBeside_177 : decode cX12_areBeside 177 = .ok (.if_icmp .ge 7, 3) := by decide +kernel
theorem dX12_areBeside_180 : decode cX12_areBeside 180 = .ok (.iconst 1, 1) := by decide +kernel
theorem dX12_areBeside_181 : decode cX12_areBeside 181 = .ok (.goto 4, 3) := by decide +kernel
theorem dX12_areBeside_184 : decode cX12_areBeside 184 = .ok (.iconst 0, 1) := by decide +kernel
theorem dX12_areBeside_185 : decode cX12_areBeside 185 = .ok (.istore 6, 2) := by decide +kernel
theorem dX12_areBeside_187 : decode cX12_areBeside 187 = .ok (.iload_n 3, 1) := by decide +kernel
theorem dX12_areBeside_188 : decode cX12_areBeside 188 = .ok (.ifCond .ne 19, 3) := by decide +kernel
theorem dX12_areBeside_191 : decode cX12_areBeside 191 = .ok (.iload 4, 2) := by decide +kernel
theorem dX12_areBeside_193 : decode cX12_areBeside 193 = .ok (.ifCond .ne 14, 3) := by decide +kernel
theorem dX12_areBeside_196 : decode cX12_areBeside 196 = .ok (.iload 5, 2) := by decide +kernel
theorem dX12_areBeside_198 : decode cX12_areBeside 198 = .ok (.iload 6, 2) := by decide +kernel
theorem dX12_areBeside_200 : decode cX12_areBeside 200 = .ok (.if_icmp .eq 7, 3) := by decide +kernel
theorem dX12_areBeside_203 : decode cX12_areBeside 203 = .ok (.iconst 1, 1) := by decide +kernel
theorem dX12_areBeside_204 : decode cX12_areBeside 204 = .ok (.goto 4, 3) := by decide +kernel
theorem dX12_areBeside_207 : decode cX12_areBeside 207 = .ok (.iconst 0, 1) := by decide +kernel
theorem dX12_areBeside_208 : decode cX12_areBeside 208 = .ok (.ireturn, 1) := by decide +kernel
def wb_X12_areBeside_185  (h : AH) (xl3 : Int32) (xl4 : Int32) (xl5 : Int32) (xs0 : Int32) (post : AH → Int32 → Prop) : Prop := (¬ xl3 = 0 → (((0 : Int32) = 0 ∨ (0 : Int32) = 1) ∧ post h 0)) ∧ (xl3 = 0 → ((¬ xl4 = 0 → (((0 : Int32) = 0 ∨ (0 : Int32) = 1) ∧ post h 0)) ∧ (xl4 = 0 → ((xl5 = xs0 → (((0 : Int32) = 0 ∨ (0 : Int32) = 1) ∧ post h 0)) ∧ (¬ xl5 = xs0 → (((1 : Int32) = 0 ∨ (1 : Int32) = 1) ∧ post h 1))))))
set_option maxRecDepth 100000 in
theorem tb_X12_areBeside_185 {G : GG} {p : Program} {l : Launch} {e : Env} {R : Room} {s : State} {m : MethodId} {args : Array Value} {below : List Frame} {meth : Method} {c : Code} {n0 s0 : Nat} {post : AH → Int32 → Prop} (C : Cx G p R s m args meth c 7 cX12_areBeside RX12 n0 s0 1 23) (hr : meth.sig.returnType = (some .boolean))   {h : AH} {xl3 : Int32} {xl4 : Int32} {xl5 : Int32} {xs0 : Int32} (hw : wb_X12_areBeside_185  h xl3 xl4 xl5 xs0 post) : AW G p l e R s m args below meth c 7 (QM G (pI post) args s below n0 s0) 185 [(3, .int xl3), (4, .int xl4), (5, .int xl5)] [.int xs0] h := by
  unfold wb_X12_areBeside_185 at hw
  refine r_istore C dX12_areBeside_185 [(6, .int xs0), (3, .int xl3), (4, .int xl4), (5, .int xl5)] (by decide) rfl ?_
  refine r_iload_n C dX12_areBeside_187 1 rfl ?_
  refine r_if_ne C dX12_areBeside_188 207 (by decide) (fun hc => ?_) (fun hc => ?_)
  · replace hw := hw.1 hc
    refine r_iconst (v := 0) C dX12_areBeside_207 (by decide) ?_
    exact r_zret C hr dX12_areBeside_208 hw.1 hw.2
  · replace hw := hw.2 hc
    refine r_iload C dX12_areBeside_191 2 rfl ?_
    refine r_if_ne C dX12_areBeside_193 207 (by decide) (fun hc => ?_) (fun hc => ?_)
    · replace hw := hw.1 hc
      refine r_iconst (v := 0) C dX12_areBeside_207 (by decide) ?_
      exact r_zret C hr dX12_areBeside_208 hw.1 hw.2
    · replace hw := hw.2 hc
      refine r_iload C dX12_areBeside_196 3 rfl ?_
      refine r_iload C dX12_areBeside_198 0 rfl ?_
      refine r_icmp_eq C dX12_areBeside_200 207 (by decide) (fun hc => ?_) (fun hc => ?_)
      · replace hw := hw.1 hc
        refine r_iconst (v := 0) C dX12_areBeside_207 (by decide) ?_
        exact r_zret C hr dX12_areBeside_208 hw.1 hw.2
      · replace hw := hw.2 hc
        refine r_iconst (v := 1) C dX12_areBeside_203 (by decide) ?_
        refine r_goto C dX12_areBeside_204 208 (by decide) ?_
        exact r_zret C hr dX12_areBeside_208 hw.1 hw.2
def wb_X12_areBeside_184  (h : AH) (xl3 : Int32) (xl4 : Int32) (xl5 : Int32)  (post : AH → Int32 → Prop) : Prop := wb_X12_areBeside_185  h xl3 xl4 xl5 0 post
set_option maxRecDepth 100000 in
theorem tb_X12_areBeside_184 {G : GG} {p : Program} {l : Launch} {e : Env} {R : Room} {s : State} {m : MethodId} {args : Array Value} {below : List Frame} {meth : Method} {c : Code} {n0 s0 : Nat} {post : AH → Int32 → Prop} (C : Cx G p R s m args meth c 7 cX12_areBeside RX12 n0 s0 1 23) (hr : meth.sig.returnType = (some .boolean))   {h : AH} {xl3 : Int32} {xl4 : Int32} {xl5 : Int32}  (hw : wb_X12_areBeside_184  h xl3 xl4 xl5 post) : AW G p l e R s m args below meth c 7 (QM G (pI post) args s below n0 s0) 184 [(3, .int xl3), (4, .int xl4), (5, .int xl5)] [] h := by
  unfold wb_X12_areBeside_184 at hw
  refine r_iconst (v := 0) C dX12_areBeside_184 (by decide) ?_
  refine r_sub [0, 1, 2] rfl ?_
  exact tb_X12_areBeside_185 C hr  hw
def wb_X12_areBeside_120  (h : AH) (al0 : Nat) (xl1 : Int32) (xl2 : Int32) (xl3 : Int32) (xl4 : Int32) (xs0 : Int32) (post : AH → Int32 → Prop) : Prop := (ob h al0 11) ∧ (∃ rv1, aP h al0 24 = some rv1 ∧ ((ob h rv1 13) ∧ ((vp_in (((3 : Int32) * xl1) + (1 : Int32)) (aL h rv1)) ∧ ((ob h al0 11) ∧ (∃ rv2, aP h al0 24 = some rv2 ∧ ((ob h rv2 13) ∧ ((vp_in (((3 : Int32) * xl2) + (1 : Int32)) (aL h rv2)) ∧ ((ob h al0 11) ∧ wp_X12_high h al0 xl2 (fun hv3 iv4 => (((aI h rv2 (((3 : Int32) * xl2) + (1 : Int32)).toNatClampNeg) + iv4) ≤ (aI h rv1 (((3 : Int32) * xl1) + (1 : Int32)).toNatClampNeg) → (wb_X12_areBeside_184  hv3 xl3 xl4 xs0 post)) ∧ (¬ ((aI h rv2 (((3 : Int32) * xl2) + (1 : Int32)).toNatClampNeg) + iv4) ≤ (aI h rv1 (((3 : Int32) * xl1) + (1 : Int32)).toNatClampNeg) → ((ob hv3 al0 11) ∧ (∃ rv5, aP hv3 al0 24 = some rv5 ∧ ((ob hv3 rv5 13) ∧ ((vp_in (((3 : Int32) * xl2) + (1 : Int32)) (aL hv3 rv5)) ∧ ((ob hv3 al0 11) ∧ (∃ rv6, aP hv3 al0 24 = some rv6 ∧ ((ob hv3 rv6 13) ∧ ((vp_in (((3 : Int32) * xl1) + (1 : Int32)) (aL hv3 rv6)) ∧ ((ob hv3 al0 11) ∧ wp_X12_high hv3 al0 xl1 (fun hv7 iv8 => (((aI hv3 rv6 (((3 : Int32) * xl1) + (1 : Int32)).toNatClampNeg) + iv8) ≤ (aI hv3 rv5 (((3 : Int32) * xl2) + (1 : Int32)).toNatClampNeg) → (wb_X12_areBeside_184  hv7 xl3 xl4 xs0 post)) ∧ (¬ ((aI hv3 rv6 (((3 : Int32) * xl1) + (1 : Int32)).toNatClampNeg) + iv8) ≤ (aI hv3 rv5 (((3 : Int32) * xl2) + (1 : Int32)).toNatClampNeg) → (wb_X12_areBeside_185  hv7 xl3 xl4 xs0 1 post))))))))))))))))))))))
set_option maxRecDepth 100000 in
theorem tb_X12_areBeside_120 {G : GG} {p : Program} {l : Launch} {e : Env} {R : Room} {s : State} {m : MethodId} {args : Array Value} {below : List Frame} {meth : Method} {c : Code} {n0 s0 : Nat} {post : AH → Int32 → Prop} (C : Cx G p R s m args meth c 7 cX12_areBeside RX12 n0 s0 1 23) (hr : meth.sig.returnType = (some .boolean))   {h : AH} {al0 : Nat} {xl1 : Int32} {xl2 : Int32} {xl3 : Int32} {xl4 : Int32} {xs0 : Int32} (hw : wb_X12_areBeside_120  h al0 xl1 xl2 xl3 xl4 xs0 post) : AW G p l e R s m args below meth c 7 (QM G (pI post) args s below n0 s0) 120 [(0, .ref (G.1 + al0)), (1, .int xl1), (2, .int xl2), (3, .int xl3), (4, .int xl4)] [.int xs0] h := by
  unfold wb_X12_areBeside_120 at hw
  refine r_istore C dX12_areBeside_120 [(5, .int xs0), (0, .ref (G.1 + al0)), (1, .int xl1), (2, .int xl2), (3, .int xl3), (4, .int xl4)] (by decide) rfl ?_
  refine r_aload_n C dX12_areBeside_122 1 rfl ?_
  have hob := hw.1
  obtain ⟨rv1, hp, hw⟩ := hw.2
  refine r_getP C fl_RX12_50_11 hob hp (fun _ _ _ => rfl) dX12_areBeside_123 ?_
  refine r_iconst (v := 3) C dX12_areBeside_126 (by decide) ?_
  refine r_iload_n C dX12_areBeside_127 2 rfl ?_
  refine r_imul C dX12_areBeside_128 ?_
  refine r_iconst (v := 1) C dX12_areBeside_129 (by decide) ?_
  refine r_iadd C dX12_areBeside_130 ?_
  refine r_iaload C hw.1 hw.2.1 dX12_areBeside_131 ?_
  replace hw := hw.2.2
  refine r_aload_n C dX12_areBeside_132 1 rfl ?_
  have hob := hw.1
  obtain ⟨rv2, hp, hw⟩ := hw.2
  refine r_getP C fl_RX12_50_11 hob hp (fun _ _ _ => rfl) dX12_areBeside_133 ?_
  refine r_iconst (v := 3) C dX12_areBeside_136 (by decide) ?_
  refine r_iload_n C dX12_areBeside_137 3 rfl ?_
  refine r_imul C dX12_areBeside_138 ?_
  refine r_iconst (v := 1) C dX12_areBeside_139 (by decide) ?_
  refine r_iadd C dX12_areBeside_140 ?_
  refine r_iaload C hw.1 hw.2.1 dX12_areBeside_141 ?_
  replace hw := hw.2.2
  refine r_aload_n C dX12_areBeside_142 1 rfl ?_
  refine r_iload_n C dX12_areBeside_143 3 rfl ?_
  have hob := hw.1
  replace hw := hw.2
  refine r_callV C (As := [.int xl2]) (rest := [.int (aI h rv2 (((3 : Int32) * xl2) + (1 : Int32)).toNatClampNeg), .int (aI h rv1 (((3 : Int32) * xl1) + (1 : Int32)).toNatClampNeg)]) (c_X12_high G h al0 xl2 _ hw) yl_X12_high (gm7 (List.mem_of_getElem? (i := 234) rfl) rfl) (gm7 (List.mem_of_getElem? (i := 236) rfl) rfl) (ci := 11) rfl (by decide) (gsel (List.mem_of_getElem? (i := 58) rfl)) hob (by decide) rfl (Nat.le_of_ble_eq_true rfl) dX12_areBeside_144 rfl (kI fun hv3 iv4 hw => ?_)
  refine r_iadd C dX12_areBeside_147 ?_
  refine r_icmp_ge C dX12_areBeside_148 184 (by decide) (fun hc => ?_) (fun hc => ?_)
  · replace hw := hw.1 hc
    refine r_sub [4, 5, 0] rfl ?_
    exact tb_X12_areBeside_184 C hr  hw
  · replace hw := hw.2 hc
    refine r_aload_n C dX12_areBeside_151 1 rfl ?_
    have hob := hw.1
    obtain ⟨rv5, hp, hw⟩ := hw.2
    refine r_getP C fl_RX12_50_11 hob hp (fun _ _ _ => rfl) dX12_areBeside_152 ?_
    refine r_iconst (v := 3) C dX12_areBeside_155 (by decide) ?_
    refine r_iload_n C dX12_areBeside_156 3 rfl ?_
    refine r_imul C dX12_areBeside_157 ?_
    refine r_iconst (v := 1) C dX12_areBeside_158 (by decide) ?_
    refine r_iadd C dX12_areBeside_159 ?_
    refine r_iaload C hw.1 hw.2.1 dX12_areBeside_160 ?_
    replace hw := hw.2.2
    refine r_aload_n C dX12_areBeside_161 1 rfl ?_
    have hob := hw.1
    obtain ⟨rv6, hp, hw⟩ := hw.2
    refine r_getP C fl_RX12_50_11 hob hp (fun _ _ _ => rfl) dX12_areBeside_162 ?_
    refine r_iconst (v := 3) C dX12_areBeside_165 (by decide) ?_
    refine r_iload_n C dX12_areBeside_166 2 rfl ?_
    refine r_imul C dX12_areBeside_167 ?_
    refine r_iconst (v := 1) C dX12_areBeside_168 (by decide) ?_
    refine r_iadd C dX12_areBeside_169 ?_
    refine r_iaload C hw.1 hw.2.1 dX12_areBeside_170 ?_
    replace hw := hw.2.2
    refine r_aload_n C dX12_areBeside_171 1 rfl ?_
    refine r_iload_n C dX12_areBeside_172 2 rfl ?_
    have hob := hw.1
    replace hw := hw.2
    refine r_callV C (As := [.int xl1]) (rest := [.int (aI hv3 rv6 (((3 : Int32) * xl1) + (1 : Int32)).toNatClampNeg), .int (aI hv3 rv5 (((3 : Int32) * xl2) + (1 : Int32)).toNatClampNeg)]) (c_X12_high G hv3 al0 xl1 _ hw) yl_X12_high (gm7 (List.mem_of_getElem? (i := 234) rfl) rfl) (gm7 (List.mem_of_getElem? (i := 236) rfl) rfl) (ci := 11) rfl (by decide) (gsel (List.mem_of_getElem? (i := 58) rfl)) hob (by decide) rfl (Nat.le_of_ble_eq_true rfl) dX12_areBeside_173 rfl (kI fun hv7 iv8 hw => ?_)
    refine r_iadd C dX12_areBeside_176 ?_
    refine r_icmp_ge C dX12_areBeside_177 184 (by decide) (fun hc => ?_) (fun hc => ?_)
    · replace hw := hw.1 hc
      refine r_sub [4, 5, 0] rfl ?_
      exact tb_X12_areBeside_184 C hr  hw
    · replace hw := hw.2 hc
      refine r_iconst (v := 1) C dX12_areBeside_180 (by decide) ?_
      refine r_goto C dX12_areBeside_181 185 (by decide) ?_
      refine r_sub [4, 5, 0] rfl ?_
      exact tb_X12_areBeside_185 C hr  hw
def wb_X12_areBeside_119  (h : AH) (al0 : Nat) (xl1 : Int32) (xl2 : Int32) (xl3 : Int32) (xl4 : Int32)  (post : AH → Int32 → Prop) : Prop := wb_X12_areBeside_120  h al0 xl1 xl2 xl3 xl4 0 post
set_option maxRecDepth 100000 in
theorem tb_X12_areBeside_119 {G : GG} {p : Program} {l : Launch} {e : Env} {R : Room} {s : State} {m : MethodId} {args : Array Value} {below : List Frame} {meth : Method} {c : Code} {n0 s0 : Nat} {post : AH → Int32 → Prop} (C : Cx G p R s m args meth c 7 cX12_areBeside RX12 n0 s0 1 23) (hr : meth.sig.returnType = (some .boolean))   {h : AH} {al0 : Nat} {xl1 : Int32} {xl2 : Int32} {xl3 : Int32} {xl4 : Int32}  (hw : wb_X12_areBeside_119  h al0 xl1 xl2 xl3 xl4 post) : AW G p l e R s m args below meth c 7 (QM G (pI post) args s below n0 s0) 119 [(0, .ref (G.1 + al0)), (1, .int xl1), (2, .int xl2), (3, .int xl3), (4, .int xl4)] [] h := by
  unfold wb_X12_areBeside_119 at hw
  refine r_iconst (v := 0) C dX12_areBeside_119 (by decide) ?_
  refine r_sub [0, 1, 2, 3, 4] rfl ?_
  exact tb_X12_areBeside_120 C hr  hw
def wp_X12_areBeside (h : AH) (a0 : Nat) (x1 : Int32) (x2 : Int32) (post : AH → Int32 → Prop) : Prop := (ob h a0 11) ∧ (∃ rv1, aP h a0 24 = some rv1 ∧ ((ob h rv1 13) ∧ ((vp_in ((3 : Int32) * x1) (aL h rv1)) ∧ ((ob h a0 11) ∧ wp_X12_wide h a0 x1 (fun hv2 iv3 => (ob hv2 a0 11) ∧ (∃ rv4, aP hv2 a0 24 = some rv4 ∧ ((ob hv2 rv4 13) ∧ ((vp_in ((3 : Int32) * x2) (aL hv2 rv4)) ∧ ((ob hv2 a0 11) ∧ wp_X12_wide hv2 a0 x2 (fun hv5 iv6 => wp_X12_between hv5 (aI h rv1 ((3 : Int32) * x1).toNatClampNeg) iv3 (aI hv2 rv4 ((3 : Int32) * x2).toNatClampNeg) iv6 (fun hv7 iv8 => (ob hv7 a0 11) ∧ (∃ rv9, aP hv7 a0 24 = some rv9 ∧ ((ob hv7 rv9 13) ∧ ((vp_in (((3 : Int32) * x1) + (1 : Int32)) (aL hv7 rv9)) ∧ ((ob hv7 a0 11) ∧ wp_X12_high hv7 a0 x1 (fun hv10 iv11 => (ob hv10 a0 11) ∧ (∃ rv12, aP hv10 a0 24 = some rv12 ∧ ((ob hv10 rv12 13) ∧ ((vp_in (((3 : Int32) * x2) + (1 : Int32)) (aL hv10 rv12)) ∧ ((ob hv10 a0 11) ∧ wp_X12_high hv10 a0 x2 (fun hv13 iv14 => wp_X12_between hv13 (aI hv7 rv9 (((3 : Int32) * x1) + (1 : Int32)).toNatClampNeg) iv11 (aI hv10 rv12 (((3 : Int32) * x2) + (1 : Int32)).toNatClampNeg) iv14 (fun hv15 iv16 => (ob hv15 a0 11) ∧ (∃ rv17, aP hv15 a0 24 = some rv17 ∧ ((ob hv15 rv17 13) ∧ ((vp_in ((3 : Int32) * x1) (aL hv15 rv17)) ∧ ((ob hv15 a0 11) ∧ (∃ rv18, aP hv15 a0 24 = some rv18 ∧ ((ob hv15 rv18 13) ∧ ((vp_in ((3 : Int32) * x2) (aL hv15 rv18)) ∧ ((ob hv15 a0 11) ∧ wp_X12_wide hv15 a0 x2 (fun hv19 iv20 => (((aI hv15 rv18 ((3 : Int32) * x2).toNatClampNeg) + iv20) ≤ (aI hv15 rv17 ((3 : Int32) * x1).toNatClampNeg) → (wb_X12_areBeside_119  hv19 a0 x1 x2 iv8 iv16 post)) ∧ (¬ ((aI hv15 rv18 ((3 : Int32) * x2).toNatClampNeg) + iv20) ≤ (aI hv15 rv17 ((3 : Int32) * x1).toNatClampNeg) → ((ob hv19 a0 11) ∧ (∃ rv21, aP hv19 a0 24 = some rv21 ∧ ((ob hv19 rv21 13) ∧ ((vp_in ((3 : Int32) * x2) (aL hv19 rv21)) ∧ ((ob hv19 a0 11) ∧ (∃ rv22, aP hv19 a0 24 = some rv22 ∧ ((ob hv19 rv22 13) ∧ ((vp_in ((3 : Int32) * x1) (aL hv19 rv22)) ∧ ((ob hv19 a0 11) ∧ wp_X12_wide hv19 a0 x1 (fun hv23 iv24 => (((aI hv19 rv22 ((3 : Int32) * x1).toNatClampNeg) + iv24) ≤ (aI hv19 rv21 ((3 : Int32) * x2).toNatClampNeg) → (wb_X12_areBeside_119  hv23 a0 x1 x2 iv8 iv16 post)) ∧ (¬ ((aI hv19 rv22 ((3 : Int32) * x1).toNatClampNeg) + iv24) ≤ (aI hv19 rv21 ((3 : Int32) * x2).toNatClampNeg) → (wb_X12_areBeside_120  hv23 a0 x1 x2 iv8 iv16 1 post))))))))))))))))))))))))))))))))))))))))))))
set_option maxRecDepth 100000 in
theorem c_X12_areBeside (G : GG) (h : AH) (a0 : Nat) (x1 : Int32) (x2 : Int32) (post : AH → Int32 → Prop) (hw : wp_X12_areBeside h a0 x1 x2 post) : MC G yX12_areBeside cX12_areBeside 7 (some .boolean) 1 23 h [.ref (G.1 + a0), .int x1, .int x2] (pI post) := by
  refine MC.of (lv := [(0, .ref (G.1 + a0)), (1, .int x1), (2, .int x2)]) (by decide) (Nat.le_of_ble_eq_true rfl) rfl fun p l e R s m args below meth c C hr hnm => ?_
  unfold wp_X12_areBeside at hw
  refine r_aload_n C dX12_areBeside_0 0 rfl ?_
  have hob := hw.1
  obtain ⟨rv1, hp, hw⟩ := hw.2
  refine r_getP C fl_RX12_50_11 hob hp (fun _ _ _ => rfl) dX12_areBeside_1 ?_
  refine r_iconst (v := 3) C dX12_areBeside_4 (by decide) ?_
  refine r_iload_n C dX12_areBeside_5 1 rfl ?_
  refine r_imul C dX12_areBeside_6 ?_
  refine r_iaload C hw.1 hw.2.1 dX12_areBeside_7 ?_
  replace hw := hw.2.2
  refine r_aload_n C dX12_areBeside_8 0 rfl ?_
  refine r_iload_n C dX12_areBeside_9 1 rfl ?_
  have hob := hw.1
  replace hw := hw.2
  refine r_callV C (As := [.int x1]) (rest := [.int (aI h rv1 ((3 : Int32) * x1).toNatClampNeg)]) (c_X12_wide G h a0 x1 _ hw) yl_X12_wide (gm7 (List.mem_of_getElem? (i := 227) rfl) rfl) (gm7 (List.mem_of_getElem? (i := 229) rfl) rfl) (ci := 11) rfl (by decide) (gsel (List.mem_of_getElem? (i := 57) rfl)) hob (by decide) rfl (Nat.le_of_ble_eq_true rfl) dX12_areBeside_10 rfl (kI fun hv2 iv3 hw => ?_)
  refine r_aload_n C dX12_areBeside_13 0 rfl ?_
  have hob := hw.1
  obtain ⟨rv4, hp, hw⟩ := hw.2
  refine r_getP C fl_RX12_50_11 hob hp (fun _ _ _ => rfl) dX12_areBeside_14 ?_
  refine r_iconst (v := 3) C dX12_areBeside_17 (by decide) ?_
  refine r_iload_n C dX12_areBeside_18 2 rfl ?_
  refine r_imul C dX12_areBeside_19 ?_
  refine r_iaload C hw.1 hw.2.1 dX12_areBeside_20 ?_
  replace hw := hw.2.2
  refine r_aload_n C dX12_areBeside_21 0 rfl ?_
  refine r_iload_n C dX12_areBeside_22 2 rfl ?_
  have hob := hw.1
  replace hw := hw.2
  refine r_callV C (As := [.int x2]) (rest := [.int (aI hv2 rv4 ((3 : Int32) * x2).toNatClampNeg), .int iv3, .int (aI h rv1 ((3 : Int32) * x1).toNatClampNeg)]) (c_X12_wide G hv2 a0 x2 _ hw) yl_X12_wide (gm7 (List.mem_of_getElem? (i := 227) rfl) rfl) (gm7 (List.mem_of_getElem? (i := 229) rfl) rfl) (ci := 11) rfl (by decide) (gsel (List.mem_of_getElem? (i := 57) rfl)) hob (by decide) rfl (Nat.le_of_ble_eq_true rfl) dX12_areBeside_23 rfl (kI fun hv5 iv6 hw => ?_)
  refine r_callS C (As := [.int (aI h rv1 ((3 : Int32) * x1).toNatClampNeg), .int iv3, .int (aI hv2 rv4 ((3 : Int32) * x2).toNatClampNeg), .int iv6]) (rest := []) (c_X12_between G hv5 (aI h rv1 ((3 : Int32) * x1).toNatClampNeg) iv3 (aI hv2 rv4 ((3 : Int32) * x2).toNatClampNeg) iv6 _ hw) yl_X12_between (gm7 (List.mem_of_getElem? (i := 231) rfl) rfl) (gm7 (List.mem_of_getElem? (i := 232) rfl) rfl) (by decide) rfl (Nat.le_of_ble_eq_true rfl) dX12_areBeside_26 rfl (kI fun hv7 iv8 hw => ?_)
  refine r_istore_n C dX12_areBeside_29 [(3, .int iv8), (0, .ref (G.1 + a0)), (1, .int x1), (2, .int x2)] (by decide) rfl ?_
  refine r_aload_n C dX12_areBeside_30 1 rfl ?_
  have hob := hw.1
  obtain ⟨rv9, hp, hw⟩ := hw.2
  refine r_getP C fl_RX12_50_11 hob hp (fun _ _ _ => rfl) dX12_areBeside_31 ?_
  refine r_iconst (v := 3) C dX12_areBeside_34 (by decide) ?_
  refine r_iload_n C dX12_areBeside_35 2 rfl ?_
  refine r_imul C dX12_areBeside_36 ?_
  refine r_iconst (v := 1) C dX12_areBeside_37 (by decide) ?_
  refine r_iadd C dX12_areBeside_38 ?_
  refine r_iaload C hw.1 hw.2.1 dX12_areBeside_39 ?_
  replace hw := hw.2.2
  refine r_aload_n C dX12_areBeside_40 1 rfl ?_
  refine r_iload_n C dX12_areBeside_41 2 rfl ?_
  have hob := hw.1
  replace hw := hw.2
  refine r_callV C (As := [.int x1]) (rest := [.int (aI hv7 rv9 (((3 : Int32) * x1) + (1 : Int32)).toNatClampNeg)]) (c_X12_high G hv7 a0 x1 _ hw) yl_X12_high (gm7 (List.mem_of_getElem? (i := 234) rfl) rfl) (gm7 (List.mem_of_getElem? (i := 236) rfl) rfl) (ci := 11) rfl (by decide) (gsel (List.mem_of_getElem? (i := 58) rfl)) hob (by decide) rfl (Nat.le_of_ble_eq_true rfl) dX12_areBeside_42 rfl (kI fun hv10 iv11 hw => ?_)
  refine r_aload_n C dX12_areBeside_45 1 rfl ?_
  have hob := hw.1
  obtain ⟨rv12, hp, hw⟩ := hw.2
  refine r_getP C fl_RX12_50_11 hob hp (fun _ _ _ => rfl) dX12_areBeside_46 ?_
  refine r_iconst (v := 3) C dX12_areBeside_49 (by decide) ?_
  refine r_iload_n C dX12_areBeside_50 3 rfl ?_
  refine r_imul C dX12_areBeside_51 ?_
  refine r_iconst (v := 1) C dX12_areBeside_52 (by decide) ?_
  refine r_iadd C dX12_areBeside_53 ?_
  refine r_iaload C hw.1 hw.2.1 dX12_areBeside_54 ?_
  replace hw := hw.2.2
  refine r_aload_n C dX12_areBeside_55 1 rfl ?_
  refine r_iload_n C dX12_areBeside_56 3 rfl ?_
  have hob := hw.1
  replace hw := hw.2
  refine r_callV C (As := [.int x2]) (rest := [.int (aI hv10 rv12 (((3 : Int32) * x2) + (1 : Int32)).toNatClampNeg), .int iv11, .int (aI hv7 rv9 (((3 : Int32) * x1) + (1 : Int32)).toNatClampNeg)]) (c_X12_high G hv10 a0 x2 _ hw) yl_X12_high (gm7 (List.mem_of_getElem? (i := 234) rfl) rfl) (gm7 (List.mem_of_getElem? (i := 236) rfl) rfl) (ci := 11) rfl (by decide) (gsel (List.mem_of_getElem? (i := 58) rfl)) hob (by decide) rfl (Nat.le_of_ble_eq_true rfl) dX12_areBeside_57 rfl (kI fun hv13 iv14 hw => ?_)
  refine r_callS C (As := [.int (aI hv7 rv9 (((3 : Int32) * x1) + (1 : Int32)).toNatClampNeg), .int iv11, .int (aI hv10 rv12 (((3 : Int32) * x2) + (1 : Int32)).toNatClampNeg), .int iv14]) (rest := []) (c_X12_between G hv13 (aI hv7 rv9 (((3 : Int32) * x1) + (1 : Int32)).toNatClampNeg) iv11 (aI hv10 rv12 (((3 : Int32) * x2) + (1 : Int32)).toNatClampNeg) iv14 _ hw) yl_X12_between (gm7 (List.mem_of_getElem? (i := 231) rfl) rfl) (gm7 (List.mem_of_getElem? (i := 232) rfl) rfl) (by decide) rfl (Nat.le_of_ble_eq_true rfl) dX12_areBeside_60 rfl (kI fun hv15 iv16 hw => ?_)
  refine r_istore C dX12_areBeside_63 [(4, .int iv16), (3, .int iv8), (0, .ref (G.1 + a0)), (1, .int x1), (2, .int x2)] (by decide) rfl ?_
  refine r_aload_n C dX12_areBeside_65 2 rfl ?_
  have hob := hw.1
  obtain ⟨rv17, hp, hw⟩ := hw.2
  refine r_getP C fl_RX12_50_11 hob hp (fun _ _ _ => rfl) dX12_areBeside_66 ?_
  refine r_iconst (v := 3) C dX12_areBeside_69 (by decide) ?_
  refine r_iload_n C dX12_areBeside_70 3 rfl ?_
  refine r_imul C dX12_areBeside_71 ?_
  refine r_iaload C hw.1 hw.2.1 dX12_areBeside_72 ?_
  replace hw := hw.2.2
  refine r_aload_n C dX12_areBeside_73 2 rfl ?_
  have hob := hw.1
  obtain ⟨rv18, hp, hw⟩ := hw.2
  refine r_getP C fl_RX12_50_11 hob hp (fun _ _ _ => rfl) dX12_areBeside_74 ?_
  refine r_iconst (v := 3) C dX12_areBeside_77 (by decide) ?_
  refine r_iload_n C dX12_areBeside_78 4 rfl ?_
  refine r_imul C dX12_areBeside_79 ?_
  refine r_iaload C hw.1 hw.2.1 dX12_areBeside_80 ?_
  replace hw := hw.2.2
  refine r_aload_n C dX12_areBeside_81 2 rfl ?_
  refine r_iload_n C dX12_areBeside_82 4 rfl ?_
  have hob := hw.1
  replace hw := hw.2
  refine r_callV C (As := [.int x2]) (rest := [.int (aI hv15 rv18 ((3 : Int32) * x2).toNatClampNeg), .int (aI hv15 rv17 ((3 : Int32) * x1).toNatClampNeg)]) (c_X12_wide G hv15 a0 x2 _ hw) yl_X12_wide (gm7 (List.mem_of_getElem? (i := 227) rfl) rfl) (gm7 (List.mem_of_getElem? (i := 229) rfl) rfl) (ci := 11) rfl (by decide) (gsel (List.mem_of_getElem? (i := 57) rfl)) hob (by decide) rfl (Nat.le_of_ble_eq_true rfl) dX12_areBeside_83 rfl (kI fun hv19 iv20 hw => ?_)
  refine r_iadd C dX12_areBeside_86 ?_
  refine r_icmp_ge C dX12_areBeside_87 119 (by decide) (fun hc => ?_) (fun hc => ?_)
  · replace hw := hw.1 hc
    refine r_sub [2, 3, 4, 1, 0] rfl ?_
    exact tb_X12_areBeside_119 C hr  hw
  · replace hw := hw.2 hc
    refine r_aload_n C dX12_areBeside_90 2 rfl ?_
    have hob := hw.1
    obtain ⟨rv21, hp, hw⟩ := hw.2
    refine r_getP C fl_RX12_50_11 hob hp (fun _ _ _ => rfl) dX12_areBeside_91 ?_
    refine r_iconst (v := 3) C dX12_areBeside_94 (by decide) ?_
    refine r_iload_n C dX12_areBeside_95 4 rfl ?_
    refine r_imul C dX12_areBeside_96 ?_
    refine r_iaload C hw.1 hw.2.1 dX12_areBeside_97 ?_
    replace hw := hw.2.2
    refine r_aload_n C dX12_areBeside_98 2 rfl ?_
    have hob := hw.1
    obtain ⟨rv22, hp, hw⟩ := hw.2
    refine r_getP C fl_RX12_50_11 hob hp (fun _ _ _ => rfl) dX12_areBeside_99 ?_
    refine r_iconst (v := 3) C dX12_areBeside_102 (by decide) ?_
    refine r_iload_n C dX12_areBeside_103 3 rfl ?_
    refine r_imul C dX12_areBeside_104 ?_
    refine r_iaload C hw.1 hw.2.1 dX12_areBeside_105 ?_
    replace hw := hw.2.2
    refine r_aload_n C dX12_areBeside_106 2 rfl ?_
    refine r_iload_n C dX12_areBeside_107 3 rfl ?_
    have hob := hw.1
    replace hw := hw.2
    refine r_callV C (As := [.int x1]) (rest := [.int (aI hv19 rv22 ((3 : Int32) * x1).toNatClampNeg), .int (aI hv19 rv21 ((3 : Int32) * x2).toNatClampNeg)]) (c_X12_wide G hv19 a0 x1 _ hw) yl_X12_wide (gm7 (List.mem_of_getElem? (i := 227) rfl) rfl) (gm7 (List.mem_of_getElem? (i := 229) rfl) rfl) (ci := 11) rfl (by decide) (gsel (List.mem_of_getElem? (i := 57) rfl)) hob (by decide) rfl (Nat.le_of_ble_eq_true rfl) dX12_areBeside_108 rfl (kI fun hv23 iv24 hw => ?_)
    refine r_iadd C dX12_areBeside_111 ?_
    refine r_icmp_ge C dX12_areBeside_112 119 (by decide) (fun hc => ?_) (fun hc => ?_)
    · replace hw := hw.1 hc
      refine r_sub [2, 3, 4, 1, 0] rfl ?_
      exact tb_X12_areBeside_119 C hr  hw
    · replace hw := hw.2 hc
      refine r_iconst (v := 1) C dX12_areBeside_115 (by decide) ?_
      refine r_goto C dX12_areBeside_116 120 (by decide) ?_
      refine r_sub [2, 3, 4, 1, 0] rfl ?_
      exact tb_X12_areBeside_120 C hr  hw
theorem dX12_hasSun_0 : decode cX12_hasSun 0 = .ok (.iconst 0, 1) := by decide +kernel
theorem dX12_hasSun_1 : decode cX12_hasSun 1 = .ok (.istore_n 3, 1) := by decide +kernel
theorem dX12_hasSun_2 : decode cX12_hasSun 2 = .ok (.iload_n 3, 1) := by decide +kernel
theorem dX12_hasSun_3 : decode cX12_hasSun 3 = .ok (.aload_n 0, 1) := by decide +kernel
theorem dX12_hasSun_4 : decode cX12_hasSun 4 = .ok (.getfield 33, 3) := by decide +kernel
theorem dX12_hasSun_7 : decode cX12_hasSun 7 = .ok (.iconst 2, 1) := by decide +kernel
theorem dX12_hasSun_8 : decode cX12_hasSun 8 = .ok (.iaload, 1) := by decide +kernel
theorem dX12_hasSun_9 : decode cX12_hasSun 9 = .ok (.if_icmp .ge 144, 3) := by decide +kernel
theorem dX12_hasSun_12 : decode cX12_hasSun 12 = .ok (.iload_n 3, 1) := by decide +kernel
theorem dX12_hasSun_13 : decode cX12_hasSun 13 = .ok (.iload_n 1, 1) := by decide +kernel
theorem dX12_hasSun_14 : decode cX12_hasSun 14 = .ok (.if_icmp .ne 6, 3) := by decide +kernel
theorem dX12_hasSun_17 : decode cX12_hasSun 17 = .ok (.goto 130, 3) := by decide +kernel
theorem dX12_hasSun_20 : decode cX12_hasSun 20 = .ok (.aload_n 0, 1) := by decide +kernel
theorem dX12_hasSun_21 : decode cX12_hasSun 21 = .ok (.getfield 50, 3) := by decide +kernel
theorem dX12_hasSun_24 : decode cX12_hasSun 24 = .ok (.iconst 3, 1) := by decide +kernel
theorem dX12_hasSun_25 : decode cX12_hasSun 25 = .ok (.iload_n 1, 1) := by decide +kernel
theorem dX12_hasSun_26 : decode cX12_hasSun 26 = .ok (.imul, 1) := by decide +kernel
theorem dX12_hasSun_27 : decode cX12_hasSun 27 = .ok (.iconst 1, 1) := by decide +kernel
theorem dX12_hasSun_28 : decode cX12_hasSun 28 = .ok (.iadd, 1) := by decide +kernel
theorem dX12_hasSun_29 : decode cX12_hasSun 29 = .ok (.iaload, 1) := by decide +kernel
theorem dX12_hasSun_30 : decode cX12_hasSun 30 = .ok (.istore 4, 2) := by decide +kernel
theorem dX12_hasSun_32 : decode cX12_hasSun 32 = .ok (.iload 4, 2) := by decide +kernel
theorem dX12_hasSun_34 : decode cX12_hasSun 34 = .ok (.aload_n 0, 1) := by decide +kernel
theorem dX12_hasSun_35 : decode cX12_hasSun 35 = .ok (.getfield 50, 3) := by decide +kernel
theorem dX12_hasSun_38 : decode cX12_hasSun 38 = .ok (.iconst 3, 1) := by decide +kernel
theorem dX12_hasSun_39 : decode cX12_hasSun 39 = .ok (.iload_n 1, 1) := by decide +kernel
theorem dX12_hasSun_40 : decode cX12_hasSun 40 = .ok (.imul, 1) := by decide +kernel
theorem dX12_hasSun_41 : decode cX12_hasSun 41 = .ok (.iconst 1, 1) := by decide +kernel
theorem dX12_hasSun_42 : decode cX12_hasSun 42 = .ok (.iadd, 1) := by decide +kernel
theorem dX12_hasSun_43 : decode cX12_hasSun 43 = .ok (.iaload, 1) := by decide +kernel
theorem dX12_hasSun_44 : decode cX12_hasSun 44 = .ok (.aload_n 0, 1) := by decide +kernel
theorem dX12_hasSun_45 : decode cX12_hasSun 45 = .ok (.iload_n 1, 1) := by decide +kernel
theorem dX12_hasSun_46 : decode cX12_hasSun 46 = .ok (.invokevirtual 300, 3) := by decide +kernel
theorem dX12_hasSun_49 : decode cX12_hasSun 49 = .ok (.iadd, 1) := by decide +kernel
theorem dX12_hasSun_50 : decode cX12_hasSun 50 = .ok (.if_icmp .ge 97, 3) := by decide +kernel
theorem dX12_hasSun_53 : decode cX12_hasSun 53 = .ok (.aload_n 0, 1) := by decide +kernel
theorem dX12_hasSun_54 : decode cX12_hasSun 54 = .ok (.getfield 50, 3) := by decide +kernel
theorem dX12_hasSun_57 : decode cX12_hasSun 57 = .ok (.iconst 3, 1) := by decide +kernel
theorem dX12_hasSun_58 : decode cX12_hasSun 58 = .ok (.iload_n 1, 1) := by decide +kernel
theorem dX12_hasSun_59 : decode cX12_hasSun 59 = .ok (.imul, 1) := by decide +kernel
theorem dX12_hasSun_60 : decode cX12_hasSun 60 = .ok (.iaload, 1) := by decide +kernel
theorem dX12_hasSun_61 : decode cX12_hasSun 61 = .ok (.istore 5, 2) := by decide +kernel
theorem dX12_hasSun_63 : decode cX12_hasSun 63 = .ok (.iload 5, 2) := by decide +kernel
theorem dX12_hasSun_65 : decode cX12_hasSun 65 = .ok (.aload_n 0, 1) := by decide +kernel
theorem dX12_hasSun_66 : decode cX12_hasSun 66 = .ok (.getfield 50, 3) := by decide +kernel
theorem dX12_hasSun_69 : decode cX12_hasSun 69 = .ok (.iconst 3, 1) := by decide +kernel
theorem dX12_hasSun_70 : decode cX12_hasSun 70 = .ok (.iload_n 1, 1) := by decide +kernel
theorem dX12_hasSun_71 : decode cX12_hasSun 71 = .ok (.imul, 1) := by decide +kernel
theorem dX12_hasSun_72 : decode cX12_hasSun 72 = .ok (.iaload, 1) := by decide +kernel
theorem dX12_hasSun_73 : decode cX12_hasSun 73 = .ok (.aload_n 0, 1) := by decide +kernel
theorem dX12_hasSun_74 : decode cX12_hasSun 74 = .ok (.iload_n 1, 1) := by decide +kernel
theorem dX12_hasSun_75 : decode cX12_hasSun 75 = .ok (.invokevirtual 297, 3) := by decide +kernel
theorem dX12_hasSun_78 : decode cX12_hasSun 78 = .ok (.iadd, 1) := by decide +kernel
theorem dX12_hasSun_79 : decode cX12_hasSun 79 = .ok (.if_icmp .ge 62, 3) := by decide +kernel
theorem dX12_hasSun_82 : decode cX12_hasSun 82 = .ok (.aload_n 0, 1) := by decide +kernel
theorem dX12_hasSun_83 : decode cX12_hasSun 83 = .ok (.iload_n 3, 1) := by decide +kernel
theorem dX12_hasSun_84 : decode cX12_hasSun 84 = .ok (.iload 5, 2) := by decide +kernel
theorem dX12_hasSun_86 : decode cX12_hasSun 86 = .ok (.iload_n 2, 1) := by decide +kernel
theorem dX12_hasSun_87 : decode cX12_hasSun 87 = .ok (.iconst 1, 1) := by decide +kernel
theorem dX12_hasSun_88 : decode cX12_hasSun 88 = .ok (.if_icmp .ne 7, 3) := by decide +kernel
theorem dX12_hasSun_91 : decode cX12_hasSun 91 = .ok (.iconst 1, 1) := by decide +kernel
theorem dX12_hasSun_92 : decode cX12_hasSun 92 = .ok (.goto 13, 3) := by decide +kernel
theorem dX12_hasSun_95 : decode cX12_hasSun 95 = .ok (.iload_n 2, 1) := by decide +kernel
theorem dX12_hasSun_96 : decode cX12_hasSun 96 = .ok (.iconst 3, 1) := by decide +kernel
theorem dX12_hasSun_97 : decode cX12_hasSun 97 = .ok (.if_icmp .ne 7, 3) := by decide +kernel
theorem dX12_hasSun_100 : decode cX12_hasSun 100 = .ok (.iconst (-1), 1) := by decide +kernel
theorem dX12_hasSun_101 : decode cX12_hasSun 101 = .ok (.goto 4, 3) := by decide +kernel
theorem dX12_hasSun_104 : decode cX12_hasSun 104 = .ok (.iconst 0, 1) := by decide +kernel
theorem dX12_hasSun_105 : decode cX12_hasSun 105 = .ok (.iadd, 1) := by decide +kernel
theorem dX12_hasSun_106 : decode cX12_hasSun 106 = .ok (.iload 4, 2) := by decide +kernel
theorem dX12_hasSun_108 : decode cX12_hasSun 108 = .ok (.iload_n 2, 1) := by decide +kernel
theorem dX12_hasSun_109 : decode cX12_hasSun 109 = .ok (.iconst 2, 1) := by decide +kernel
theorem dX12_hasSun_110 : decode cX12_hasSun 110 = .ok (.if_icmp .ne 7, 3) := by decide +kernel
theorem dX12_hasSun_113 : decode cX12_hasSun 113 = .ok (.iconst 1, 1) := by decide +kernel
theorem dX12_hasSun_114 : decode cX12_hasSun 114 = .ok (.goto 12, 3) := by decide +kernel
theorem dX12_hasSun_117 : decode cX12_hasSun 117 = .ok (.iload_n 2, 1) := by decide +kernel
theorem dX12_hasSun_118 : decode cX12_hasSun 118 = .ok (.ifCond .ne 7, 3) := by decide +kernel
theorem dX12_hasSun_121 : decode cX12_hasSun 121 = .ok (.iconst (-1), 1) := by decide +kernel
theorem dX12_hasSun_122 : decode cX12_hasSun 122 = .ok (.goto 4, 3) := by decide +kernel
theorem dX12_hasSun_125 : decode cX12_hasSun 125 = .ok (.iconst 0, 1) := by decide +kernel
theorem dX12_hasSun_126 : decode cX12_hasSun 126 = .ok (.iadd, 1) := by decide +kernel
theorem dX12_hasSun_127 : decode cX12_hasSun 127 = .ok (.invokevirtual 320, 3) := by decide +kernel
theorem dX12_hasSun_130 : decode cX12_hasSun 130 = .ok (.ifCond .eq 5, 3) := by decide +kernel
theorem dX12_hasSun_133 : decode cX12_hasSun 133 = .ok (.iconst 0, 1) := by decide +kernel
theorem dX12_hasSun_134 : decode cX12_hasSun 134 = .ok (.ireturn, 1) := by decide +kernel
theorem dX12_hasSun_135 : decode cX12_hasSun 135 = .ok (.iinc 5 1, 3) := by decide +kernel
theorem dX12_hasSun_138 : decode cX12_hasSun 138 = .ok (.goto (-75), 3) := by decide +kernel
theorem dX12_hasSun_141 : decode cX12_hasSun 141 = .ok (.iinc 4 1, 3) := by decide +kernel
theorem dX12_hasSun_144 : decode cX12_hasSun 144 = .ok (.goto (-112), 3) := by decide +kernel
theorem dX12_hasSun_147 : decode cX12_hasSun 147 = .ok (.iinc 3 1, 3) := by decide +kernel
theorem dX12_hasSun_150 : decode cX12_hasSun 150 = .ok (.goto (-148), 3) := by decide +kernel
theorem dX12_hasSun_153 : decode cX12_hasSun 153 = .ok (.iconst 1, 1) := by decide +kernel
theorem dX12_hasSun_154 : decode cX12_hasSun 154 = .ok (.ireturn, 1) := by decide +kernel
def wb_X12_hasSun_147 (K2 : AH → Nat → Int32 → Int32 → Int32 → Prop) (h : AH) (al0 : Nat) (xl1 : Int32) (xl2 : Int32) (xl3 : Int32)  (post : AH → Int32 → Prop) : Prop := ∀ iv1 : Int32, iv1 = xl3 + 1 → (K2 h al0 xl1 xl2 iv1)
set_option maxRecDepth 100000 in
theorem tb_X12_hasSun_147 {G : GG} {p : Program} {l : Launch} {e : Env} {R : Room} {s : State} {m : MethodId} {args : Array Value} {below : List Frame} {meth : Method} {c : Code} {n0 s0 : Nat} {post : AH → Int32 → Prop} (C : Cx G p R s m args meth c 6 cX12_hasSun RX12 n0 s0 2 44) (hr : meth.sig.returnType = (some .boolean)) {K2 : AH → Nat → Int32 → Int32 → Int32 → Prop} (hK2 : ∀ (h : AH) (al0 : Nat) (xl1 : Int32) (xl2 : Int32) (xl3 : Int32), K2 h al0 xl1 xl2 xl3 → AW G p l e R s m args below meth c 6 (QM G (pI post) args s below n0 s0) 2 [(0, .ref (G.1 + al0)), (1, .int xl1), (2, .int xl2), (3, .int xl3)] [] h) {h : AH} {al0 : Nat} {xl1 : Int32} {xl2 : Int32} {xl3 : Int32}  (hw : wb_X12_hasSun_147 K2 h al0 xl1 xl2 xl3 post) : AW G p l e R s m args below meth c 6 (QM G (pI post) args s below n0 s0) 147 [(0, .ref (G.1 + al0)), (1, .int xl1), (2, .int xl2), (3, .int xl3)] [] h := by
  unfold wb_X12_hasSun_147 at hw
  obtain ⟨iv1, eiv1⟩ : ∃ q : Int32, q = xl3 + 1 := ⟨_, rfl⟩
  replace hw := hw iv1 eiv1
  refine r_iinc C dX12_hasSun_147 3 rfl (by rw [eiv1]; rfl) [(3, .int iv1), (0, .ref (G.1 + al0)), (1, .int xl1), (2, .int xl2)] (by decide) rfl ?_
  refine r_goto C dX12_hasSun_150 2 (by decide) ?_
  refine r_sub [1, 2, 3, 0] rfl ?_
  exact hK2 _ _ _ _ _ hw
def wb_X12_hasSun_126 (K2 : AH → Nat → Int32 → Int32 → Int32 → Prop) (K32 : AH → Nat → Int32 → Int32 → Int32 → Int32 → Prop) (K63 : AH → Nat → Int32 → Int32 → Int32 → Int32 → Int32 → Prop) (h : AH) (al0 : Nat) (xl1 : Int32) (xl2 : Int32) (xl3 : Int32) (xl4 : Int32) (xl5 : Int32) (xs0 : Int32) (xs1 : Int32) (xs2 : Int32) (xs3 : Int32) (as4 : Nat) (post : AH → Int32 → Prop) : Prop := (ob h as4 11) ∧ wp_X12_isOn h as4 xs3 xs2 (xs1 + xs0) (fun hv1 iv2 => (iv2 = 0 → (∀ iv3 : Int32, iv3 = xl5 + 1 → (K63 hv1 al0 xl1 xl2 xl3 xl4 iv3))) ∧ (¬ iv2 = 0 → (((0 : Int32) = 0 ∨ (0 : Int32) = 1) ∧ post hv1 0)))
set_option maxRecDepth 100000 in
theorem tb_X12_hasSun_126 {G : GG} {p : Program} {l : Launch} {e : Env} {R : Room} {s : State} {m : MethodId} {args : Array Value} {below : List Frame} {meth : Method} {c : Code} {n0 s0 : Nat} {post : AH → Int32 → Prop} (C : Cx G p R s m args meth c 6 cX12_hasSun RX12 n0 s0 2 44) (hr : meth.sig.returnType = (some .boolean)) {K2 : AH → Nat → Int32 → Int32 → Int32 → Prop} {K32 : AH → Nat → Int32 → Int32 → Int32 → Int32 → Prop} {K63 : AH → Nat → Int32 → Int32 → Int32 → Int32 → Int32 → Prop} (hK2 : ∀ (h : AH) (al0 : Nat) (xl1 : Int32) (xl2 : Int32) (xl3 : Int32), K2 h al0 xl1 xl2 xl3 → AW G p l e R s m args below meth c 6 (QM G (pI post) args s below n0 s0) 2 [(0, .ref (G.1 + al0)), (1, .int xl1), (2, .int xl2), (3, .int xl3)] [] h) (hK32 : ∀ (h : AH) (al0 : Nat) (xl1 : Int32) (xl2 : Int32) (xl3 : Int32) (xl4 : Int32), K32 h al0 xl1 xl2 xl3 xl4 → AW G p l e R s m args below meth c 6 (QM G (pI post) args s below n0 s0) 32 [(0, .ref (G.1 + al0)), (1, .int xl1), (2, .int xl2), (3, .int xl3), (4, .int xl4)] [] h) (hK63 : ∀ (h : AH) (al0 : Nat) (xl1 : Int32) (xl2 : Int32) (xl3 : Int32) (xl4 : Int32) (xl5 : Int32), K63 h al0 xl1 xl2 xl3 xl4 xl5 → AW G p l e R s m args below meth c 6 (QM G (pI post) args s below n0 s0) 63 [(0, .ref (G.1 + al0)), (1, .int xl1), (2, .int xl2), (3, .int xl3), (4, .int xl4), (5, .int xl5)] [] h) {h : AH} {al0 : Nat} {xl1 : Int32} {xl2 : Int32} {xl3 : Int32} {xl4 : Int32} {xl5 : Int32} {xs0 : Int32} {xs1 : Int32} {xs2 : Int32} {xs3 : Int32} {as4 : Nat} (hw : wb_X12_hasSun_126 K2 K32 K63 h al0 xl1 xl2 xl3 xl4 xl5 xs0 xs1 xs2 xs3 as4 post) : AW G p l e R s m args below meth c 6 (QM G (pI post) args s below n0 s0) 126 [(0, .ref (G.1 + al0)), (1, .int xl1), (2, .int xl2), (3, .int xl3), (4, .int xl4), (5, .int xl5)] [.int xs0, .int xs1, .int xs2, .int xs3, .ref (G.1 + as4)] h := by
  unfold wb_X12_hasSun_126 at hw
  refine r_iadd C dX12_hasSun_126 ?_
  have hob := hw.1
  replace hw := hw.2
  refine r_callV C (As := [.int xs3, .int xs2, .int (xs1 + xs0)]) (rest := []) (c_X12_isOn G h as4 xs3 xs2 (xs1 + xs0) _ hw) yl_X12_isOn (gm8 (List.mem_of_getElem? (i := 65) rfl) rfl) (gm8 (List.mem_of_getElem? (i := 67) rfl) rfl) (ci := 11) rfl (by decide) (gsel (List.mem_of_getElem? (i := 71) rfl)) hob (by decide) rfl (Nat.le_of_ble_eq_true rfl) dX12_hasSun_127 rfl (kI fun hv1 iv2 hw => ?_)
  refine r_if_eq C dX12_hasSun_130 135 (by decide) (fun hc => ?_) (fun hc => ?_)
  · replace hw := hw.1 hc
    obtain ⟨iv3, eiv3⟩ : ∃ q : Int32, q = xl5 + 1 := ⟨_, rfl⟩
    replace hw := hw iv3 eiv3
    refine r_iinc C dX12_hasSun_135 5 rfl (by rw [eiv3]; rfl) [(5, .int iv3), (0, .ref (G.1 + al0)), (1, .int xl1), (2, .int xl2), (3, .int xl3), (4, .int xl4)] (by decide) rfl ?_
    refine r_goto C dX12_hasSun_138 63 (by decide) ?_
    refine r_sub [1, 2, 3, 4, 5, 0] rfl ?_
    exact hK63 _ _ _ _ _ _ _ hw
  · replace hw := hw.2 hc
    refine r_iconst (v := 0) C dX12_hasSun_133 (by decide) ?_
    exact r_zret C hr dX12_hasSun_134 hw.1 hw.2
def wb_X12_hasSun_105 (K2 : AH → Nat → Int32 → Int32 → Int32 → Prop) (K32 : AH → Nat → Int32 → Int32 → Int32 → Int32 → Prop) (K63 : AH → Nat → Int32 → Int32 → Int32 → Int32 → Int32 → Prop) (h : AH) (al0 : Nat) (xl1 : Int32) (xl2 : Int32) (xl3 : Int32) (xl4 : Int32) (xl5 : Int32) (xs0 : Int32) (xs1 : Int32) (xs2 : Int32) (as3 : Nat) (post : AH → Int32 → Prop) : Prop := (¬ xl2 = 2 → ((¬ xl2 = 0 → (wb_X12_hasSun_126 K2 K32 K63 h al0 xl1 xl2 xl3 xl4 xl5 0 xl4 (xs1 + xs0) xs2 as3 post)) ∧ (xl2 = 0 → (wb_X12_hasSun_126 K2 K32 K63 h al0 xl1 xl2 xl3 xl4 xl5 (-1) xl4 (xs1 + xs0) xs2 as3 post)))) ∧ (xl2 = 2 → (wb_X12_hasSun_126 K2 K32 K63 h al0 xl1 xl2 xl3 xl4 xl5 1 xl4 (xs1 + xs0) xs2 as3 post))
set_option maxRecDepth 100000 in
theorem tb_X12_hasSun_105 {G : GG} {p : Program} {l : Launch} {e : Env} {R : Room} {s : State} {m : MethodId} {args : Array Value} {below : List Frame} {meth : Method} {c : Code} {n0 s0 : Nat} {post : AH → Int32 → Prop} (C : Cx G p R s m args meth c 6 cX12_hasSun RX12 n0 s0 2 44) (hr : meth.sig.returnType = (some .boolean)) {K2 : AH → Nat → Int32 → Int32 → Int32 → Prop} {K32 : AH → Nat → Int32 → Int32 → Int32 → Int32 → Prop} {K63 : AH → Nat → Int32 → Int32 → Int32 → Int32 → Int32 → Prop} (hK2 : ∀ (h : AH) (al0 : Nat) (xl1 : Int32) (xl2 : Int32) (xl3 : Int32), K2 h al0 xl1 xl2 xl3 → AW G p l e R s m args below meth c 6 (QM G (pI post) args s below n0 s0) 2 [(0, .ref (G.1 + al0)), (1, .int xl1), (2, .int xl2), (3, .int xl3)] [] h) (hK32 : ∀ (h : AH) (al0 : Nat) (xl1 : Int32) (xl2 : Int32) (xl3 : Int32) (xl4 : Int32), K32 h al0 xl1 xl2 xl3 xl4 → AW G p l e R s m args below meth c 6 (QM G (pI post) args s below n0 s0) 32 [(0, .ref (G.1 + al0)), (1, .int xl1), (2, .int xl2), (3, .int xl3), (4, .int xl4)] [] h) (hK63 : ∀ (h : AH) (al0 : Nat) (xl1 : Int32) (xl2 : Int32) (xl3 : Int32) (xl4 : Int32) (xl5 : Int32), K63 h al0 xl1 xl2 xl3 xl4 xl5 → AW G p l e R s m args below meth c 6 (QM G (pI post) args s below n0 s0) 63 [(0, .ref (G.1 + al0)), (1, .int xl1), (2, .int xl2), (3, .int xl3), (4, .int xl4), (5, .int xl5)] [] h) {h : AH} {al0 : Nat} {xl1 : Int32} {xl2 : Int32} {xl3 : Int32} {xl4 : Int32} {xl5 : Int32} {xs0 : Int32} {xs1 : Int32} {xs2 : Int32} {as3 : Nat} (hw : wb_X12_hasSun_105 K2 K32 K63 h al0 xl1 xl2 xl3 xl4 xl5 xs0 xs1 xs2 as3 post) : AW G p l e R s m args below meth c 6 (QM G (pI post) args s below n0 s0) 105 [(0, .ref (G.1 + al0)), (1, .int xl1), (2, .int xl2), (3, .int xl3), (4, .int xl4), (5, .int xl5)] [.int xs0, .int xs1, .int xs2, .ref (G.1 + as3)] h := by
  unfold wb_X12_hasSun_105 at hw
  refine r_iadd C dX12_hasSun_105 ?_
  refine r_iload C dX12_hasSun_106 4 rfl ?_
  refine r_iload_n C dX12_hasSun_108 2 rfl ?_
  refine r_iconst (v := 2) C dX12_hasSun_109 (by decide) ?_
  refine r_icmp_ne C dX12_hasSun_110 117 (by decide) (fun hc => ?_) (fun hc => ?_)
  · replace hw := hw.1 hc
    refine r_iload_n C dX12_hasSun_117 2 rfl ?_
    refine r_if_ne C dX12_hasSun_118 125 (by decide) (fun hc => ?_) (fun hc => ?_)
    · replace hw := hw.1 hc
      refine r_iconst (v := 0) C dX12_hasSun_125 (by decide) ?_
      refine r_sub [0, 1, 2, 3, 4, 5] rfl ?_
      exact tb_X12_hasSun_126 C hr hK2 hK32 hK63 hw
    · replace hw := hw.2 hc
      refine r_iconst (v := (-1)) C dX12_hasSun_121 (by decide) ?_
      refine r_goto C dX12_hasSun_122 126 (by decide) ?_
      refine r_sub [0, 1, 2, 3, 4, 5] rfl ?_
      exact tb_X12_hasSun_126 C hr hK2 hK32 hK63 hw
  · replace hw := hw.2 hc
    refine r_iconst (v := 1) C dX12_hasSun_113 (by decide) ?_
    refine r_goto C dX12_hasSun_114 126 (by decide) ?_
    refine r_sub [0, 1, 2, 3, 4, 5] rfl ?_
    exact tb_X12_hasSun_126 C hr hK2 hK32 hK63 hw
def wb_X12_hasSun_63 (K2 : AH → Nat → Int32 → Int32 → Int32 → Prop) (K32 : AH → Nat → Int32 → Int32 → Int32 → Int32 → Prop) (K63 : AH → Nat → Int32 → Int32 → Int32 → Int32 → Int32 → Prop) (h : AH) (al0 : Nat) (xl1 : Int32) (xl2 : Int32) (xl3 : Int32) (xl4 : Int32) (xl5 : Int32)  (post : AH → Int32 → Prop) : Prop := (ob h al0 11) ∧ (∃ rv1, aP h al0 24 = some rv1 ∧ ((ob h rv1 13) ∧ ((vp_in ((3 : Int32) * xl1) (aL h rv1)) ∧ ((ob h al0 11) ∧ wp_X12_wide h al0 xl1 (fun hv2 iv3 => (((aI h rv1 ((3 : Int32) * xl1).toNatClampNeg) + iv3) ≤ xl5 → (∀ iv4 : Int32, iv4 = xl4 + 1 → (K32 hv2 al0 xl1 xl2 xl3 iv4))) ∧ (¬ ((aI h rv1 ((3 : Int32) * xl1).toNatClampNeg) + iv3) ≤ xl5 → ((¬ xl2 = 1 → ((¬ xl2 = 3 → (wb_X12_hasSun_105 K2 K32 K63 hv2 al0 xl1 xl2 xl3 xl4 xl5 0 xl5 xl3 al0 post)) ∧ (xl2 = 3 → (wb_X12_hasSun_105 K2 K32 K63 hv2 al0 xl1 xl2 xl3 xl4 xl5 (-1) xl5 xl3 al0 post)))) ∧ (xl2 = 1 → (wb_X12_hasSun_105 K2 K32 K63 hv2 al0 xl1 xl2 xl3 xl4 xl5 1 xl5 xl3 al0 post)))))))))
set_option maxRecDepth 100000 in
theorem tb_X12_hasSun_63 {G : GG} {p : Program} {l : Launch} {e : Env} {R : Room} {s : State} {m : MethodId} {args : Array Value} {below : List Frame} {meth : Method} {c : Code} {n0 s0 : Nat} {post : AH → Int32 → Prop} (C : Cx G p R s m args meth c 6 cX12_hasSun RX12 n0 s0 2 44) (hr : meth.sig.returnType = (some .boolean)) {K2 : AH → Nat → Int32 → Int32 → Int32 → Prop} {K32 : AH → Nat → Int32 → Int32 → Int32 → Int32 → Prop} {K63 : AH → Nat → Int32 → Int32 → Int32 → Int32 → Int32 → Prop} (hK2 : ∀ (h : AH) (al0 : Nat) (xl1 : Int32) (xl2 : Int32) (xl3 : Int32), K2 h al0 xl1 xl2 xl3 → AW G p l e R s m args below meth c 6 (QM G (pI post) args s below n0 s0) 2 [(0, .ref (G.1 + al0)), (1, .int xl1), (2, .int xl2), (3, .int xl3)] [] h) (hK32 : ∀ (h : AH) (al0 : Nat) (xl1 : Int32) (xl2 : Int32) (xl3 : Int32) (xl4 : Int32), K32 h al0 xl1 xl2 xl3 xl4 → AW G p l e R s m args below meth c 6 (QM G (pI post) args s below n0 s0) 32 [(0, .ref (G.1 + al0)), (1, .int xl1), (2, .int xl2), (3, .int xl3), (4, .int xl4)] [] h) (hK63 : ∀ (h : AH) (al0 : Nat) (xl1 : Int32) (xl2 : Int32) (xl3 : Int32) (xl4 : Int32) (xl5 : Int32), K63 h al0 xl1 xl2 xl3 xl4 xl5 → AW G p l e R s m args below meth c 6 (QM G (pI post) args s below n0 s0) 63 [(0, .ref (G.1 + al0)), (1, .int xl1), (2, .int xl2), (3, .int xl3), (4, .int xl4), (5, .int xl5)] [] h) {h : AH} {al0 : Nat} {xl1 : Int32} {xl2 : Int32} {xl3 : Int32} {xl4 : Int32} {xl5 : Int32}  (hw : wb_X12_hasSun_63 K2 K32 K63 h al0 xl1 xl2 xl3 xl4 xl5 post) : AW G p l e R s m args below meth c 6 (QM G (pI post) args s below n0 s0) 63 [(0, .ref (G.1 + al0)), (1, .int xl1), (2, .int xl2), (3, .int xl3), (4, .int xl4), (5, .int xl5)] [] h := by
  unfold wb_X12_hasSun_63 at hw
  refine r_iload C dX12_hasSun_63 5 rfl ?_
  refine r_aload_n C dX12_hasSun_65 0 rfl ?_
  have hob := hw.1
  obtain ⟨rv1, hp, hw⟩ := hw.2
  refine r_getP C fl_RX12_50_11 hob hp (fun _ _ _ => rfl) dX12_hasSun_66 ?_
  refine r_iconst (v := 3) C dX12_hasSun_69 (by decide) ?_
  refine r_iload_n C dX12_hasSun_70 1 rfl ?_
  refine r_imul C dX12_hasSun_71 ?_
  refine r_iaload C hw.1 hw.2.1 dX12_hasSun_72 ?_
  replace hw := hw.2.2
  refine r_aload_n C dX12_hasSun_73 0 rfl ?_
  refine r_iload_n C dX12_hasSun_74 1 rfl ?_
  have hob := hw.1
  replace hw := hw.2
  refine r_callV C (As := [.int xl1]) (rest := [.int (aI h rv1 ((3 : Int32) * xl1).toNatClampNeg), .int xl5]) (c_X12_wide G h al0 xl1 _ hw) yl_X12_wide (gm7 (List.mem_of_getElem? (i := 227) rfl) rfl) (gm7 (List.mem_of_getElem? (i := 229) rfl) rfl) (ci := 11) rfl (by decide) (gsel (List.mem_of_getElem? (i := 57) rfl)) hob (by decide) rfl (Nat.le_of_ble_eq_true rfl) dX12_hasSun_75 rfl (kI fun hv2 iv3 hw => ?_)
  refine r_iadd C dX12_hasSun_78 ?_
  refine r_icmp_ge C dX12_hasSun_79 141 (by decide) (fun hc => ?_) (fun hc => ?_)
  · replace hw := hw.1 hc
    obtain ⟨iv4, eiv4⟩ : ∃ q : Int32, q = xl4 + 1 := ⟨_, rfl⟩
    replace hw := hw iv4 eiv4
    refine r_iinc C dX12_hasSun_141 4 rfl (by rw [eiv4]; rfl) [(4, .int iv4), (0, .ref (G.1 + al0)), (1, .int xl1), (2, .int xl2), (3, .int xl3), (5, .int xl5)] (by decide) rfl ?_
    refine r_goto C dX12_hasSun_144 32 (by decide) ?_
    refine r_sub [1, 2, 3, 4, 0] rfl ?_
    exact hK32 _ _ _ _ _ _ hw
  · replace hw := hw.2 hc
    refine r_aload_n C dX12_hasSun_82 0 rfl ?_
    refine r_iload_n C dX12_hasSun_83 3 rfl ?_
    refine r_iload C dX12_hasSun_84 5 rfl ?_
    refine r_iload_n C dX12_hasSun_86 2 rfl ?_
    refine r_iconst (v := 1) C dX12_hasSun_87 (by decide) ?_
    refine r_icmp_ne C dX12_hasSun_88 95 (by decide) (fun hc => ?_) (fun hc => ?_)
    · replace hw := hw.1 hc
      refine r_iload_n C dX12_hasSun_95 2 rfl ?_
      refine r_iconst (v := 3) C dX12_hasSun_96 (by decide) ?_
      refine r_icmp_ne C dX12_hasSun_97 104 (by decide) (fun hc => ?_) (fun hc => ?_)
      · replace hw := hw.1 hc
        refine r_iconst (v := 0) C dX12_hasSun_104 (by decide) ?_
        refine r_sub [0, 1, 2, 3, 4, 5] rfl ?_
        exact tb_X12_hasSun_105 C hr hK2 hK32 hK63 hw
      · replace hw := hw.2 hc
        refine r_iconst (v := (-1)) C dX12_hasSun_100 (by decide) ?_
        refine r_goto C dX12_hasSun_101 105 (by decide) ?_
        refine r_sub [0, 1, 2, 3, 4, 5] rfl ?_
        exact tb_X12_hasSun_105 C hr hK2 hK32 hK63 hw
    · replace hw := hw.2 hc
      refine r_iconst (v := 1) C dX12_hasSun_91 (by decide) ?_
      refine r_goto C dX12_hasSun_92 105 (by decide) ?_
      refine r_sub [0, 1, 2, 3, 4, 5] rfl ?_
      exact tb_X12_hasSun_105 C hr hK2 hK32 hK63 hw
def wl_X12_hasSun_63 (K2 : AH → Nat → Int32 → Int32 → Int32 → Prop) (K32 : AH → Nat → Int32 → Int32 → Int32 → Int32 → Prop) (post : AH → Int32 → Prop) : Nat → AH → Nat → Int32 → Int32 → Int32 → Int32 → Int32 → Prop
  | 0 => fun _ _ _ _ _ _ _ => False
  | n + 1 => fun h al0 xl1 xl2 xl3 xl4 xl5 => wb_X12_hasSun_63 K2 K32 (wl_X12_hasSun_63 K2 K32 post n) h al0 xl1 xl2 xl3 xl4 xl5 post
theorem tl_X12_hasSun_63 {G : GG} {p : Program} {l : Launch} {e : Env} {R : Room} {s : State} {m : MethodId} {args : Array Value} {below : List Frame} {meth : Method} {c : Code} {n0 s0 : Nat} {post : AH → Int32 → Prop} (C : Cx G p R s m args meth c 6 cX12_hasSun RX12 n0 s0 2 44) (hr : meth.sig.returnType = (some .boolean)) {K2 : AH → Nat → Int32 → Int32 → Int32 → Prop} {K32 : AH → Nat → Int32 → Int32 → Int32 → Int32 → Prop} (hK2 : ∀ (h : AH) (al0 : Nat) (xl1 : Int32) (xl2 : Int32) (xl3 : Int32), K2 h al0 xl1 xl2 xl3 → AW G p l e R s m args below meth c 6 (QM G (pI post) args s below n0 s0) 2 [(0, .ref (G.1 + al0)), (1, .int xl1), (2, .int xl2), (3, .int xl3)] [] h) (hK32 : ∀ (h : AH) (al0 : Nat) (xl1 : Int32) (xl2 : Int32) (xl3 : Int32) (xl4 : Int32), K32 h al0 xl1 xl2 xl3 xl4 → AW G p l e R s m args below meth c 6 (QM G (pI post) args s below n0 s0) 32 [(0, .ref (G.1 + al0)), (1, .int xl1), (2, .int xl2), (3, .int xl3), (4, .int xl4)] [] h) : ∀ (n : Nat) (h : AH) (al0 : Nat) (xl1 : Int32) (xl2 : Int32) (xl3 : Int32) (xl4 : Int32) (xl5 : Int32), wl_X12_hasSun_63 K2 K32 post n h al0 xl1 xl2 xl3 xl4 xl5 → AW G p l e R s m args below meth c 6 (QM G (pI post) args s below n0 s0) 63 [(0, .ref (G.1 + al0)), (1, .int xl1), (2, .int xl2), (3, .int xl3), (4, .int xl4), (5, .int xl5)] [] h := by
  intro n
  induction n with
  | zero => intro h al0 xl1 xl2 xl3 xl4 xl5 hw; exact hw.elim
  | succ n ih => intro h al0 xl1 xl2 xl3 xl4 xl5 hw; exact tb_X12_hasSun_63 C hr hK2 hK32 ih hw
def wb_X12_hasSun_32 (K2 : AH → Nat → Int32 → Int32 → Int32 → Prop) (K32 : AH → Nat → Int32 → Int32 → Int32 → Int32 → Prop) (h : AH) (al0 : Nat) (xl1 : Int32) (xl2 : Int32) (xl3 : Int32) (xl4 : Int32)  (post : AH → Int32 → Prop) : Prop := (ob h al0 11) ∧ (∃ rv1, aP h al0 24 = some rv1 ∧ ((ob h rv1 13) ∧ ((vp_in (((3 : Int32) * xl1) + (1 : Int32)) (aL h rv1)) ∧ ((ob h al0 11) ∧ wp_X12_high h al0 xl1 (fun hv2 iv3 => (((aI h rv1 (((3 : Int32) * xl1) + (1 : Int32)).toNatClampNeg) + iv3) ≤ xl4 → (wb_X12_hasSun_147 K2 hv2 al0 xl1 xl2 xl3 post)) ∧ (¬ ((aI h rv1 (((3 : Int32) * xl1) + (1 : Int32)).toNatClampNeg) + iv3) ≤ xl4 → ((ob hv2 al0 11) ∧ (∃ rv4, aP hv2 al0 24 = some rv4 ∧ ((ob hv2 rv4 13) ∧ ((vp_in ((3 : Int32) * xl1) (aL hv2 rv4)) ∧ (∀ iv5 : Int32, iv5 = aI hv2 rv4 ((3 : Int32) * xl1).toNatClampNeg → (∃ n, wl_X12_hasSun_63 K2 K32 post n hv2 al0 xl1 xl2 xl3 xl4 iv5))))))))))))
set_option maxRecDepth 100000 in
theorem tb_X12_hasSun_32 {G : GG} {p : Program} {l : Launch} {e : Env} {R : Room} {s : State} {m : MethodId} {args : Array Value} {below : List Frame} {meth : Method} {c : Code} {n0 s0 : Nat} {post : AH → Int32 → Prop} (C : Cx G p R s m args meth c 6 cX12_hasSun RX12 n0 s0 2 44) (hr : meth.sig.returnType = (some .boolean)) {K2 : AH → Nat → Int32 → Int32 → Int32 → Prop} {K32 : AH → Nat → Int32 → Int32 → Int32 → Int32 → Prop} (hK2 : ∀ (h : AH) (al0 : Nat) (xl1 : Int32) (xl2 : Int32) (xl3 : Int32), K2 h al0 xl1 xl2 xl3 → AW G p l e R s m args below meth c 6 (QM G (pI post) args s below n0 s0) 2 [(0, .ref (G.1 + al0)), (1, .int xl1), (2, .int xl2), (3, .int xl3)] [] h) (hK32 : ∀ (h : AH) (al0 : Nat) (xl1 : Int32) (xl2 : Int32) (xl3 : Int32) (xl4 : Int32), K32 h al0 xl1 xl2 xl3 xl4 → AW G p l e R s m args below meth c 6 (QM G (pI post) args s below n0 s0) 32 [(0, .ref (G.1 + al0)), (1, .int xl1), (2, .int xl2), (3, .int xl3), (4, .int xl4)] [] h) {h : AH} {al0 : Nat} {xl1 : Int32} {xl2 : Int32} {xl3 : Int32} {xl4 : Int32}  (hw : wb_X12_hasSun_32 K2 K32 h al0 xl1 xl2 xl3 xl4 post) : AW G p l e R s m args below meth c 6 (QM G (pI post) args s below n0 s0) 32 [(0, .ref (G.1 + al0)), (1, .int xl1), (2, .int xl2), (3, .int xl3), (4, .int xl4)] [] h := by
  unfold wb_X12_hasSun_32 at hw
  refine r_iload C dX12_hasSun_32 4 rfl ?_
  refine r_aload_n C dX12_hasSun_34 0 rfl ?_
  have hob := hw.1
  obtain ⟨rv1, hp, hw⟩ := hw.2
  refine r_getP C fl_RX12_50_11 hob hp (fun _ _ _ => rfl) dX12_hasSun_35 ?_
  refine r_iconst (v := 3) C dX12_hasSun_38 (by decide) ?_
  refine r_iload_n C dX12_hasSun_39 1 rfl ?_
  refine r_imul C dX12_hasSun_40 ?_
  refine r_iconst (v := 1) C dX12_hasSun_41 (by decide) ?_
  refine r_iadd C dX12_hasSun_42 ?_
  refine r_iaload C hw.1 hw.2.1 dX12_hasSun_43 ?_
  replace hw := hw.2.2
  refine r_aload_n C dX12_hasSun_44 0 rfl ?_
  refine r_iload_n C dX12_hasSun_45 1 rfl ?_
  have hob := hw.1
  replace hw := hw.2
  refine r_callV C (As := [.int xl1]) (rest := [.int (aI h rv1 (((3 : Int32) * xl1) + (1 : Int32)).toNatClampNeg), .int xl4]) (c_X12_high G h al0 xl1 _ hw) yl_X12_high (gm7 (List.mem_of_getElem? (i := 234) rfl) rfl) (gm7 (List.mem_of_getElem? (i := 236) rfl) rfl) (ci := 11) rfl (by decide) (gsel (List.mem_of_getElem? (i := 58) rfl)) hob (by decide) rfl (Nat.le_of_ble_eq_true rfl) dX12_hasSun_46 rfl (kI fun hv2 iv3 hw => ?_)
  refine r_iadd C dX12_hasSun_49 ?_
  refine r_icmp_ge C dX12_hasSun_50 147 (by decide) (fun hc => ?_) (fun hc => ?_)
  · replace hw := hw.1 hc
    refine r_sub [0, 1, 2, 3] rfl ?_
    exact tb_X12_hasSun_147 C hr hK2 hw
  · replace hw := hw.2 hc
    refine r_aload_n C dX12_hasSun_53 0 rfl ?_
    have hob := hw.1
    obtain ⟨rv4, hp, hw⟩ := hw.2
    refine r_getP C fl_RX12_50_11 hob hp (fun _ _ _ => rfl) dX12_hasSun_54 ?_
    refine r_iconst (v := 3) C dX12_hasSun_57 (by decide) ?_
    refine r_iload_n C dX12_hasSun_58 1 rfl ?_
    refine r_imul C dX12_hasSun_59 ?_
    refine r_iaload C hw.1 hw.2.1 dX12_hasSun_60 ?_
    replace hw := hw.2.2
    refine r_topi fun iv5 eiv5 => ?_
    replace hw := hw iv5 eiv5
    refine r_istore C dX12_hasSun_61 [(5, .int iv5), (0, .ref (G.1 + al0)), (1, .int xl1), (2, .int xl2), (3, .int xl3), (4, .int xl4)] (by decide) rfl ?_
    refine r_sub [1, 2, 3, 4, 5, 0] rfl ?_
    obtain ⟨n, hw⟩ := hw
    exact tl_X12_hasSun_63 C hr hK2 hK32 n _ _ _ _ _ _ _ hw
def wl_X12_hasSun_32 (K2 : AH → Nat → Int32 → Int32 → Int32 → Prop) (post : AH → Int32 → Prop) : Nat → AH → Nat → Int32 → Int32 → Int32 → Int32 → Prop
  | 0 => fun _ _ _ _ _ _ => False
  | n + 1 => fun h al0 xl1 xl2 xl3 xl4 => wb_X12_hasSun_32 K2 (wl_X12_hasSun_32 K2 post n) h al0 xl1 xl2 xl3 xl4 post
theorem tl_X12_hasSun_32 {G : GG} {p : Program} {l : Launch} {e : Env} {R : Room} {s : State} {m : MethodId} {args : Array Value} {below : List Frame} {meth : Method} {c : Code} {n0 s0 : Nat} {post : AH → Int32 → Prop} (C : Cx G p R s m args meth c 6 cX12_hasSun RX12 n0 s0 2 44) (hr : meth.sig.returnType = (some .boolean)) {K2 : AH → Nat → Int32 → Int32 → Int32 → Prop} (hK2 : ∀ (h : AH) (al0 : Nat) (xl1 : Int32) (xl2 : Int32) (xl3 : Int32), K2 h al0 xl1 xl2 xl3 → AW G p l e R s m args below meth c 6 (QM G (pI post) args s below n0 s0) 2 [(0, .ref (G.1 + al0)), (1, .int xl1), (2, .int xl2), (3, .int xl3)] [] h) : ∀ (n : Nat) (h : AH) (al0 : Nat) (xl1 : Int32) (xl2 : Int32) (xl3 : Int32) (xl4 : Int32), wl_X12_hasSun_32 K2 post n h al0 xl1 xl2 xl3 xl4 → AW G p l e R s m args below meth c 6 (QM G (pI post) args s below n0 s0) 32 [(0, .ref (G.1 + al0)), (1, .int xl1), (2, .int xl2), (3, .int xl3), (4, .int xl4)] [] h := by
  intro n
  induction n with
  | zero => intro h al0 xl1 xl2 xl3 xl4 hw; exact hw.elim
  | succ n ih => intro h al0 xl1 xl2 xl3 xl4 hw; exact tb_X12_hasSun_32 C hr hK2 ih hw
def wb_X12_hasSun_2 (K2 : AH → Nat → Int32 → Int32 → Int32 → Prop) (h : AH) (al0 : Nat) (xl1 : Int32) (xl2 : Int32) (xl3 : Int32)  (post : AH → Int32 → Prop) : Prop := (ob h al0 11) ∧ (∃ rv1, aP h al0 6 = some rv1 ∧ ((ob h rv1 13) ∧ ((vp_in 2 (aL h rv1)) ∧ (((aI h rv1 (2 : Int32).toNatClampNeg) ≤ xl3 → (((1 : Int32) = 0 ∨ (1 : Int32) = 1) ∧ post h 1)) ∧ (¬ (aI h rv1 (2 : Int32).toNatClampNeg) ≤ xl3 → ((¬ xl3 = xl1 → ((ob h al0 11) ∧ (∃ rv2, aP h al0 24 = some rv2 ∧ ((ob h rv2 13) ∧ ((vp_in (((3 : Int32) * xl1) + (1 : Int32)) (aL h rv2)) ∧ (∀ iv3 : Int32, iv3 = aI h rv2 (((3 : Int32) * xl1) + (1 : Int32)).toNatClampNeg → (∃ n, wl_X12_hasSun_32 K2 post n h al0 xl1 xl2 xl3 iv3))))))) ∧ (xl3 = xl1 → (wb_X12_hasSun_147 K2 h al0 xl1 xl2 xl3 post))))))))
set_option maxRecDepth 100000 in
theorem tb_X12_hasSun_2 {G : GG} {p : Program} {l : Launch} {e : Env} {R : Room} {s : State} {m : MethodId} {args : Array Value} {below : List Frame} {meth : Method} {c : Code} {n0 s0 : Nat} {post : AH → Int32 → Prop} (C : Cx G p R s m args meth c 6 cX12_hasSun RX12 n0 s0 2 44) (hr : meth.sig.returnType = (some .boolean)) {K2 : AH → Nat → Int32 → Int32 → Int32 → Prop} (hK2 : ∀ (h : AH) (al0 : Nat) (xl1 : Int32) (xl2 : Int32) (xl3 : Int32), K2 h al0 xl1 xl2 xl3 → AW G p l e R s m args below meth c 6 (QM G (pI post) args s below n0 s0) 2 [(0, .ref (G.1 + al0)), (1, .int xl1), (2, .int xl2), (3, .int xl3)] [] h) {h : AH} {al0 : Nat} {xl1 : Int32} {xl2 : Int32} {xl3 : Int32}  (hw : wb_X12_hasSun_2 K2 h al0 xl1 xl2 xl3 post) : AW G p l e R s m args below meth c 6 (QM G (pI post) args s below n0 s0) 2 [(0, .ref (G.1 + al0)), (1, .int xl1), (2, .int xl2), (3, .int xl3)] [] h := by
  unfold wb_X12_hasSun_2 at hw
  refine r_iload_n C dX12_hasSun_2 3 rfl ?_
  refine r_aload_n C dX12_hasSun_3 0 rfl ?_
  have hob := hw.1
  obtain ⟨rv1, hp, hw⟩ := hw.2
  refine r_getP C fl_RX12_33_11 hob hp (fun _ _ _ => rfl) dX12_hasSun_4 ?_
  refine r_iconst (v := 2) C dX12_hasSun_7 (by decide) ?_
  refine r_iaload C hw.1 hw.2.1 dX12_hasSun_8 ?_
  replace hw := hw.2.2
  refine r_icmp_ge C dX12_hasSun_9 153 (by decide) (fun hc => ?_) (fun hc => ?_)
  · replace hw := hw.1 hc
    refine r_iconst (v := 1) C dX12_hasSun_153 (by decide) ?_
    exact r_zret C hr dX12_hasSun_154 hw.1 hw.2
  · replace hw := hw.2 hc
    refine r_iload_n C dX12_hasSun_12 3 rfl ?_
    refine r_iload_n C dX12_hasSun_13 1 rfl ?_
    refine r_icmp_ne C dX12_hasSun_14 20 (by decide) (fun hc => ?_) (fun hc => ?_)
    · replace hw := hw.1 hc
      refine r_aload_n C dX12_hasSun_20 0 rfl ?_
      have hob := hw.1
      obtain ⟨rv2, hp, hw⟩ := hw.2
      refine r_getP C fl_RX12_50_11 hob hp (fun _ _ _ => rfl) dX12_hasSun_21 ?_
      refine r_iconst (v := 3) C dX12_hasSun_24 (by decide) ?_
      refine r_iload_n C dX12_hasSun_25 1 rfl ?_
      refine r_imul C dX12_hasSun_26 ?_
      refine r_iconst (v := 1) C dX12_hasSun_27 (by decide) ?_
      refine r_iadd C dX12_hasSun_28 ?_
      refine r_iaload C hw.1 hw.2.1 dX12_hasSun_29 ?_
      replace hw := hw.2.2
      refine r_topi fun iv3 eiv3 => ?_
      replace hw := hw iv3 eiv3
      refine r_istore C dX12_hasSun_30 [(4, .int iv3), (0, .ref (G.1 + al0)), (1, .int xl1), (2, .int xl2), (3, .int xl3)] (by decide) rfl ?_
      refine r_sub [1, 2, 3, 4, 0] rfl ?_
      obtain ⟨n, hw⟩ := hw
      exact tl_X12_hasSun_32 C hr hK2 n _ _ _ _ _ _ hw
    · replace hw := hw.2 hc
      refine r_goto C dX12_hasSun_17 147 (by decide) ?_
      refine r_sub [0, 1, 2, 3] rfl ?_
      exact tb_X12_hasSun_147 C hr hK2 hw
def wl_X12_hasSun_2  (post : AH → Int32 → Prop) : Nat → AH → Nat → Int32 → Int32 → Int32 → Prop
  | 0 => fun _ _ _ _ _ => False
  | n + 1 => fun h al0 xl1 xl2 xl3 => wb_X12_hasSun_2  (wl_X12_hasSun_2  post n) h al0 xl1 xl2 xl3 post
theorem tl_X12_hasSun_2 {G : GG} {p : Program} {l : Launch} {e : Env} {R : Room} {s : State} {m : MethodId} {args : Array Value} {below : List Frame} {meth : Method} {c : Code} {n0 s0 : Nat} {post : AH → Int32 → Prop} (C : Cx G p R s m args meth c 6 cX12_hasSun RX12 n0 s0 2 44) (hr : meth.sig.returnType = (some .boolean))   : ∀ (n : Nat) (h : AH) (al0 : Nat) (xl1 : Int32) (xl2 : Int32) (xl3 : Int32), wl_X12_hasSun_2  post n h al0 xl1 xl2 xl3 → AW G p l e R s m args below meth c 6 (QM G (pI post) args s below n0 s0) 2 [(0, .ref (G.1 + al0)), (1, .int xl1), (2, .int xl2), (3, .int xl3)] [] h := by
  intro n
  induction n with
  | zero => intro h al0 xl1 xl2 xl3 hw; exact hw.elim
  | succ n ih => intro h al0 xl1 xl2 xl3 hw; exact tb_X12_hasSun_2 C hr  ih hw
def wp_X12_hasSun (h : AH) (a0 : Nat) (x1 : Int32) (x2 : Int32) (post : AH → Int32 → Prop) : Prop := ∃ n, wl_X12_hasSun_2  post n h a0 x1 x2 0
set_option maxRecDepth 100000 in
theorem c_X12_hasSun (G : GG) (h : AH) (a0 : Nat) (x1 : Int32) (x2 : Int32) (post : AH → Int32 → Prop) (hw : wp_X12_hasSun h a0 x1 x2 post) : MC G yX12_hasSun cX12_hasSun 6 (some .boolean) 2 44 h [.ref (G.1 + a0), .int x1, .int x2] (pI post) := by
  refine MC.of (lv := [(0, .ref (G.1 + a0)), (1, .int x1), (2, .int x2)]) (by decide) (Nat.le_of_ble_eq_true rfl) rfl fun p l e R s m args below meth c C hr hnm => ?_
  unfold wp_X12_hasSun at hw
  refine r_iconst (v := 0) C dX12_hasSun_0 (by decide) ?_
  refine r_istore_n C dX12_hasSun_1 [(3, .int 0), (0, .ref (G.1 + a0)), (1, .int x1), (2, .int x2)] (by decide) rfl ?_
  refine r_sub [1, 2, 3, 0] rfl ?_
  obtain ⟨n, hw⟩ := hw
  exact tl_X12_hasSun_2 C hr  n _ _ _ _ _ hw
theorem dX12_isSo_0 : decode cX12_isSo 0 = .ok (.sipush 175, 3) := by decide +kernel
theorem dX12_isSo_3 : decode cX12_isSo 3 = .ok (.iconst 5, 1) := by decide +kernel
theorem dX12_isSo_4 : decode cX12_isSo 4 = .ok (.iload_n 1, 1) := by decide +kernel
theorem dX12_isSo_5 : decode cX12_isSo 5 = .ok (.imul, 1) := by decide +kernel
theorem dX12_isSo_6 : decode cX12_isSo 6 = .ok (.iadd, 1) := by decide +kernel
theorem dX12_isSo_7 : decode cX12_isSo 7 = .ok (.istore_n 2, 1) := by decide +kernel
theorem dX12_isSo_8 : decode cX12_isSo 8 = .ok (.aload_n 0, 1) := by decide +kernel
theorem dX12_isSo_9 : decode cX12_isSo 9 = .ok (.getfield 33, 3) := by decide +kernel
theorem dX12_isSo_12 : decode cX12_isSo 12 = .ok (.iload_n 2, 1) := by decide +kernel
theorem dX12_isSo_13 : decode cX12_isSo 13 = .ok (.iconst 1, 1) := by decide +kernel
theorem dX12_isSo_14 : decode cX12_isSo 14 = .ok (.iadd, 1) := by decide +kernel
theorem dX12_isSo_15 : decode cX12_isSo 15 = .ok (.iaload, 1) := by decide +kernel
theorem dX12_isSo_16 : decode cX12_isSo 16 = .ok (.istore_n 3, 1) := by decide +kernel
theorem dX12_isSo_17 : decode cX12_isSo 17 = .ok (.aload_n 0, 1) := by decide +kernel
theorem dX12_isSo_18 : decode cX12_isSo 18 = .ok (.getfield 33, 3) := by decide +kernel
theorem dX12_isSo_21 : decode cX12_isSo 21 = .ok (.iload_n 2, 1) := by decide +kernel
theorem dX12_isSo_22 : decode cX12_isSo 22 = .ok (.iaload, 1) := by decide +kernel
theorem dX12_isSo_23 : decode cX12_isSo 23 = .ok (.tableswitch 75 0 2 #[25, 39, 61], 25) := by decide +kernel
theorem dX12_isSo_48 : decode cX12_isSo 48 = .ok (.aload_n 0, 1) := by decide +kernel
theorem dX12_isSo_49 : decode cX12_isSo 49 = .ok (.iload_n 3, 1) := by decide +kernel
theorem dX12_isSo_50 : decode cX12_isSo 50 = .ok (.aload_n 0, 1) := by decide +kernel
theorem dX12_isSo_51 : decode cX12_isSo 51 = .ok (.getfield 33, 3) := by decide +kernel
theorem dX12_isSo_54 : decode cX12_isSo 54 = .ok (.iload_n 2, 1) := by decide +kernel
theorem dX12_isSo_55 : decode cX12_isSo 55 = .ok (.iconst 2, 1) := by decide +kernel
theorem dX12_isSo_56 : decode cX12_isSo 56 = .ok (.iadd, 1) := by decide +kernel
theorem dX12_isSo_57 : decode cX12_isSo 57 = .ok (.iaload, 1) := by decide +kernel
theorem dX12_isSo_58 : decode cX12_isSo 58 = .ok (.invokevirtual 353, 3) := by decide +kernel
theorem dX12_isSo_61 : decode cX12_isSo 61 = .ok (.ireturn, 1) := by decide +kernel
theorem dX12_isSo_62 : decode cX12_isSo 62 = .ok (.aload_n 0, 1) := by decide +kernel
theorem dX12_isSo_63 : decode cX12_isSo 63 = .ok (.iload_n 3, 1) := by decide +kernel
theorem dX12_isSo_64 : decode cX12_isSo 64 = .ok (.aload_n 0, 1) := by decide +kernel
theorem dX12_isSo_65 : decode cX12_isSo 65 = .ok (.getfield 33, 3) := by decide +kernel
theorem dX12_isSo_68 : decode cX12_isSo 68 = .ok (.iload_n 2, 1) := by decide +kernel
theorem dX12_isSo_69 : decode cX12_isSo 69 = .ok (.iconst 2, 1) := by decide +kernel
theorem dX12_isSo_70 : decode cX12_isSo 70 = .ok (.iadd, 1) := by decide +kernel
theorem dX12_isSo_71 : decode cX12_isSo 71 = .ok (.iaload, 1) := by decide +kernel
theorem dX12_isSo_72 : decode cX12_isSo 72 = .ok (.invokevirtual 353, 3) := by decide +kernel
theorem dX12_isSo_75 : decode cX12_isSo 75 = .ok (.ifCond .ne 7, 3) := by decide +kernel
theorem dX12_isSo_78 : decode cX12_isSo 78 = .ok (.iconst 1, 1) := by decide +kernel
theorem dX12_isSo_79 : decode cX12_isSo 79 = .ok (.goto 4, 3) := by decide +kernel
theorem dX12_isSo_82 : decode cX12_isSo 82 = .ok (.iconst 0, 1) := by decide +kernel
theorem dX12_isSo_83 : decode cX12_isSo 83 = .ok (.ireturn, 1) := by decide +kernel
theorem dX12_isSo_84 : decode cX12_isSo 84 = .ok (.aload_n 0, 1) := by decide +kernel
theorem dX12_isSo_85 : decode cX12_isSo 85 = .ok (.iload_n 3, 1) := by decide +kernel
theorem dX12_isSo_86 : decode cX12_isSo 86 = .ok (.aload_n 0, 1) := by decide +kernel
theorem dX12_isSo_87 : decode cX12_isSo 87 = .ok (.getfield 33, 3) := by decide +kernel
theorem dX12_isSo_90 : decode cX12_isSo 90 = .ok (.iload_n 2, 1) := by decide +kernel
theorem dX12_isSo_91 : decode cX12_isSo 91 = .ok (.iconst 2, 1) := by decide +kernel
theorem dX12_isSo_92 : decode cX12_isSo 92 = .ok (.iadd, 1) := by decide +kernel
theorem dX12_isSo_93 : decode cX12_isSo 93 = .ok (.iaload, 1) := by decide +kernel
theorem dX12_isSo_94 : decode cX12_isSo 94 = .ok (.invokevirtual 356, 3) := by decide +kernel
theorem dX12_isSo_97 : decode cX12_isSo 97 = .ok (.ireturn, 1) := by decide +kernel
theorem dX12_isSo_98 : decode cX12_isSo 98 = .ok (.aload_n 0, 1) := by decide +kernel
theorem dX12_isSo_99 : decode cX12_isSo 99 = .ok (.iload_n 3, 1) := by decide +kernel
theorem dX12_isSo_100 : decode cX12_isSo 100 = .ok (.aload_n 0, 1) := by decide +kernel
theorem dX12_isSo_101 : decode cX12_isSo 101 = .ok (.getfield 33, 3) := by decide +kernel
theorem dX12_isSo_104 : decode cX12_isSo 104 = .ok (.iload_n 2, 1) := by decide +kernel
theorem dX12_isSo_105 : decode cX12_isSo 105 = .ok (.iconst 2, 1) := by decide +kernel
theorem dX12_isSo_106 : decode cX12_isSo 106 = .ok (.iadd, 1) := by decide +kernel
theorem dX12_isSo_107 : decode cX12_isSo 107 = .ok (.iaload, 1) := by decide +kernel
theorem dX12_isSo_108 : decode cX12_isSo 108 = .ok (.aload_n 0, 1) := by decide +kernel
theorem dX12_isSo_109 : decode cX12_isSo 109 = .ok (.getfield 33, 3) := by decide +kernel
theorem dX12_isSo_112 : decode cX12_isSo 112 = .ok (.iload_n 2, 1) := by decide +kernel
theorem dX12_isSo_113 : decode cX12_isSo 113 = .ok (.iconst 3, 1) := by decide +kernel
theorem dX12_isSo_114 : decode cX12_isSo 114 = .ok (.iadd, 1) := by decide +kernel
theorem dX12_isSo_115 : decode cX12_isSo 115 = .ok (.iaload, 1) := by decide +kernel
theorem dX12_isSo_116 : decode cX12_isSo 116 = .ok (.invokevirtual 320, 3) := by decide +kernel
theorem dX12_isSo_119 : decode cX12_isSo 119 = .ok (.ireturn, 1) := by decide +kernel
def wp_X12_isSo (h : AH) (a0 : Nat) (x1 : Int32) (post : AH → Int32 → Prop) : Prop := ∀ iv1 : Int32, iv1 = (175 : Int32) + ((5 : Int32) * x1) → ((ob h a0 11) ∧ (∃ rv2, aP h a0 6 = some rv2 ∧ ((ob h rv2 13) ∧ ((vp_in (iv1 + (1 : Int32)) (aL h rv2)) ∧ (∀ iv3 : Int32, iv3 = aI h rv2 (iv1 + (1 : Int32)).toNatClampNeg → ((ob h a0 11) ∧ (∃ rv4, aP h a0 6 = some rv4 ∧ ((ob h rv4 13) ∧ ((vp_in iv1 (aL h rv4)) ∧ (((aI h rv4 iv1.toNatClampNeg) = 0 → ((ob h a0 11) ∧ (∃ rv5, aP h a0 6 = some rv5 ∧ ((ob h rv5 13) ∧ ((vp_in (iv1 + (2 : Int32)) (aL h rv5)) ∧ ((ob h a0 11) ∧ wp_X12_areBeside h a0 iv3 (aI h rv5 (iv1 + (2 : Int32)).toNatClampNeg) (fun hv6 iv7 => (iv7 = 0 ∨ iv7 = 1) ∧ post hv6 iv7))))))) ∧ ((aI h rv4 iv1.toNatClampNeg) = 1 → ((ob h a0 11) ∧ (∃ rv8, aP h a0 6 = some rv8 ∧ ((ob h rv8 13) ∧ ((vp_in (iv1 + (2 : Int32)) (aL h rv8)) ∧ ((ob h a0 11) ∧ wp_X12_areBeside h a0 iv3 (aI h rv8 (iv1 + (2 : Int32)).toNatClampNeg) (fun hv9 iv10 => (¬ iv10 = 0 → (((0 : Int32) = 0 ∨ (0 : Int32) = 1) ∧ post hv9 0)) ∧ (iv10 = 0 → (((1 : Int32) = 0 ∨ (1 : Int32) = 1) ∧ post hv9 1))))))))) ∧ ((aI h rv4 iv1.toNatClampNeg) = 2 → ((ob h a0 11) ∧ (∃ rv11, aP h a0 6 = some rv11 ∧ ((ob h rv11 13) ∧ ((vp_in (iv1 + (2 : Int32)) (aL h rv11)) ∧ ((ob h a0 11) ∧ wp_X12_hasSun h a0 iv3 (aI h rv11 (iv1 + (2 : Int32)).toNatClampNeg) (fun hv12 iv13 => (iv13 = 0 ∨ iv13 = 1) ∧ post hv12 iv13))))))) ∧ (((aI h rv4 iv1.toNatClampNeg).toInt < 0 ∨ 2 < (aI h rv4 iv1.toNatClampNeg).toInt) → ((ob h a0 11) ∧ (∃ rv14, aP h a0 6 = some rv14 ∧ ((ob h rv14 13) ∧ ((vp_in (iv1 + (2 : Int32)) (aL h rv14)) ∧ ((ob h a0 11) ∧ (∃ rv15, aP h a0 6 = some rv15 ∧ ((ob h rv15 13) ∧ ((vp_in (iv1 + (3 : Int32)) (aL h rv15)) ∧ ((ob h a0 11) ∧ wp_X12_isOn h a0 iv3 (aI h rv14 (iv1 + (2 : Int32)).toNatClampNeg) (aI h rv15 (iv1 + (3 : Int32)).toNatClampNeg) (fun hv16 iv17 => (iv17 = 0 ∨ iv17 = 1) ∧ post hv16 iv17)))))))))))))))))))))
set_option maxRecDepth 100000 in
theorem c_X12_isSo (G : GG) (h : AH) (a0 : Nat) (x1 : Int32) (post : AH → Int32 → Prop) (hw : wp_X12_isSo h a0 x1 post) : MC G yX12_isSo cX12_isSo 4 (some .boolean) 3 69 h [.ref (G.1 + a0), .int x1] (pI post) := by
  refine MC.of (lv := [(0, .ref (G.1 + a0)), (1, .int x1)]) (by decide) (Nat.le_of_ble_eq_true rfl) rfl fun p l e R s m args below meth c C hr hnm => ?_
  unfold wp_X12_isSo at hw
  refine r_sipush (v := 175) C dX12_isSo_0 (by decide) ?_
  refine r_iconst (v := 5) C dX12_isSo_3 (by decide) ?_
  refine r_iload_n C dX12_isSo_4 1 rfl ?_
  refine r_imul C dX12_isSo_5 ?_
  refine r_iadd C dX12_isSo_6 ?_
  refine r_topi fun iv1 eiv1 => ?_
  replace hw := hw iv1 eiv1
  refine r_istore_n C dX12_isSo_7 [(2, .int iv1), (0, .ref (G.1 + a0)), (1, .int x1)] (by decide) rfl ?_
  refine r_aload_n C dX12_isSo_8 1 rfl ?_
  have hob := hw.1
  obtain ⟨rv2, hp, hw⟩ := hw.2
  refine r_getP C fl_RX12_33_11 hob hp (fun _ _ _ => rfl) dX12_isSo_9 ?_
  refine r_iload_n C dX12_isSo_12 0 rfl ?_
  refine r_iconst (v := 1) C dX12_isSo_13 (by decide) ?_
  refine r_iadd C dX12_isSo_14 ?_
  refine r_iaload C hw.1 hw.2.1 dX12_isSo_15 ?_
  replace hw := hw.2.2
  refine r_topi fun iv3 eiv3 => ?_
  replace hw := hw iv3 eiv3
  refine r_istore_n C dX12_isSo_16 [(3, .int iv3), (2, .int iv1), (0, .ref (G.1 + a0)), (1, .int x1)] (by decide) rfl ?_
  refine r_aload_n C dX12_isSo_17 2 rfl ?_
  have hob := hw.1
  obtain ⟨rv4, hp, hw⟩ := hw.2
  refine r_getP C fl_RX12_33_11 hob hp (fun _ _ _ => rfl) dX12_isSo_18 ?_
  refine r_iload_n C dX12_isSo_21 1 rfl ?_
  refine r_iaload C hw.1 hw.2.1 dX12_isSo_22 ?_
  replace hw := hw.2.2
  by_cases hc0 : (aI h rv4 iv1.toNatClampNeg) = 0
  · replace hw := hw.1 hc0
    refine r_tableIn C dX12_isSo_23 (by rw [hc0]; decide) (by rw [hc0]; decide) (by rw [hc0]; rfl) 48 (by decide) ?_
    refine r_aload_n C dX12_isSo_48 2 rfl ?_
    refine r_iload_n C dX12_isSo_49 0 rfl ?_
    refine r_aload_n C dX12_isSo_50 2 rfl ?_
    have hob := hw.1
    obtain ⟨rv5, hp, hw⟩ := hw.2
    refine r_getP C fl_RX12_33_11 hob hp (fun _ _ _ => rfl) dX12_isSo_51 ?_
    refine r_iload_n C dX12_isSo_54 1 rfl ?_
    refine r_iconst (v := 2) C dX12_isSo_55 (by decide) ?_
    refine r_iadd C dX12_isSo_56 ?_
    refine r_iaload C hw.1 hw.2.1 dX12_isSo_57 ?_
    replace hw := hw.2.2
    have hob := hw.1
    replace hw := hw.2
    refine r_callV C (As := [.int iv3, .int (aI h rv5 (iv1 + (2 : Int32)).toNatClampNeg)]) (rest := []) (c_X12_areBeside G h a0 iv3 (aI h rv5 (iv1 + (2 : Int32)).toNatClampNeg) _ hw) yl_X12_areBeside (gm8 (List.mem_of_getElem? (i := 149) rfl) rfl) (gm8 (List.mem_of_getElem? (i := 151) rfl) rfl) (ci := 11) rfl (by decide) (gsel (List.mem_of_getElem? (i := 85) rfl)) hob (by decide) rfl (Nat.le_of_ble_eq_true rfl) dX12_isSo_58 rfl (kI fun hv6 iv7 hw => ?_)
    exact r_zret C hr dX12_isSo_61 hw.1 hw.2
  by_cases hc1 : (aI h rv4 iv1.toNatClampNeg) = 1
  · replace hw := hw.2.1 hc1
    refine r_tableIn C dX12_isSo_23 (by rw [hc1]; decide) (by rw [hc1]; decide) (by rw [hc1]; rfl) 62 (by decide) ?_
    refine r_aload_n C dX12_isSo_62 2 rfl ?_
    refine r_iload_n C dX12_isSo_63 0 rfl ?_
    refine r_aload_n C dX12_isSo_64 2 rfl ?_
    have hob := hw.1
    obtain ⟨rv8, hp, hw⟩ := hw.2
    refine r_getP C fl_RX12_33_11 hob hp (fun _ _ _ => rfl) dX12_isSo_65 ?_
    refine r_iload_n C dX12_isSo_68 1 rfl ?_
    refine r_iconst (v := 2) C dX12_isSo_69 (by decide) ?_
    refine r_iadd C dX12_isSo_70 ?_
    refine r_iaload C hw.1 hw.2.1 dX12_isSo_71 ?_
    replace hw := hw.2.2
    have hob := hw.1
    replace hw := hw.2
    refine r_callV C (As := [.int iv3, .int (aI h rv8 (iv1 + (2 : Int32)).toNatClampNeg)]) (rest := []) (c_X12_areBeside G h a0 iv3 (aI h rv8 (iv1 + (2 : Int32)).toNatClampNeg) _ hw) yl_X12_areBeside (gm8 (List.mem_of_getElem? (i := 149) rfl) rfl) (gm8 (List.mem_of_getElem? (i := 151) rfl) rfl) (ci := 11) rfl (by decide) (gsel (List.mem_of_getElem? (i := 85) rfl)) hob (by decide) rfl (Nat.le_of_ble_eq_true rfl) dX12_isSo_72 rfl (kI fun hv9 iv10 hw => ?_)
    refine r_if_ne C dX12_isSo_75 82 (by decide) (fun hc => ?_) (fun hc => ?_)
    · replace hw := hw.1 hc
      refine r_iconst (v := 0) C dX12_isSo_82 (by decide) ?_
      exact r_zret C hr dX12_isSo_83 hw.1 hw.2
    · replace hw := hw.2 hc
      refine r_iconst (v := 1) C dX12_isSo_78 (by decide) ?_
      refine r_goto C dX12_isSo_79 83 (by decide) ?_
      exact r_zret C hr dX12_isSo_83 hw.1 hw.2
  by_cases hc2 : (aI h rv4 iv1.toNatClampNeg) = 2
  · replace hw := hw.2.2.1 hc2
    refine r_tableIn C dX12_isSo_23 (by rw [hc2]; decide) (by rw [hc2]; decide) (by rw [hc2]; rfl) 84 (by decide) ?_
    refine r_aload_n C dX12_isSo_84 2 rfl ?_
    refine r_iload_n C dX12_isSo_85 0 rfl ?_
    refine r_aload_n C dX12_isSo_86 2 rfl ?_
    have hob := hw.1
    obtain ⟨rv11, hp, hw⟩ := hw.2
    refine r_getP C fl_RX12_33_11 hob hp (fun _ _ _ => rfl) dX12_isSo_87 ?_
    refine r_iload_n C dX12_isSo_90 1 rfl ?_
    refine r_iconst (v := 2) C dX12_isSo_91 (by decide) ?_
    refine r_iadd C dX12_isSo_92 ?_
    refine r_iaload C hw.1 hw.2.1 dX12_isSo_93 ?_
    replace hw := hw.2.2
    have hob := hw.1
    replace hw := hw.2
    refine r_callV C (As := [.int iv3, .int (aI h rv11 (iv1 + (2 : Int32)).toNatClampNeg)]) (rest := []) (c_X12_hasSun G h a0 iv3 (aI h rv11 (iv1 + (2 : Int32)).toNatClampNeg) _ hw) yl_X12_hasSun (gm8 (List.mem_of_getElem? (i := 153) rfl) rfl) (gm8 (List.mem_of_getElem? (i := 155) rfl) rfl) (ci := 11) rfl (by decide) (gsel (List.mem_of_getElem? (i := 86) rfl)) hob (by decide) rfl (Nat.le_of_ble_eq_true rfl) dX12_isSo_94 rfl (kI fun hv12 iv13 hw => ?_)
    exact r_zret C hr dX12_isSo_97 hw.1 hw.2
  have hcd : (aI h rv4 iv1.toNatClampNeg).toInt < 0 ∨ 2 < (aI h rv4 iv1.toNatClampNeg).toInt := sw_out (aI h rv4 iv1.toNatClampNeg) 2 (by decide) (fun k hk => match k, hk with | 0, _ => hc0 | 1, _ => hc1 | 2, _ => hc2 | k + 3, hk => absurd hk (by omega))
  replace hw := hw.2.2.2 hcd
  refine r_tableOut C dX12_isSo_23 hcd 98 (by decide) ?_
  refine r_aload_n C dX12_isSo_98 2 rfl ?_
  refine r_iload_n C dX12_isSo_99 0 rfl ?_
  refine r_aload_n C dX12_isSo_100 2 rfl ?_
  have hob := hw.1
  obtain ⟨rv14, hp, hw⟩ := hw.2
  refine r_getP C fl_RX12_33_11 hob hp (fun _ _ _ => rfl) dX12_isSo_101 ?_
  refine r_iload_n C dX12_isSo_104 1 rfl ?_
  refine r_iconst (v := 2) C dX12_isSo_105 (by decide) ?_
  refine r_iadd C dX12_isSo_106 ?_
  refine r_iaload C hw.1 hw.2.1 dX12_isSo_107 ?_
  replace hw := hw.2.2
  refine r_aload_n C dX12_isSo_108 2 rfl ?_
  have hob := hw.1
  obtain ⟨rv15, hp, hw⟩ := hw.2
  refine r_getP C fl_RX12_33_11 hob hp (fun _ _ _ => rfl) dX12_isSo_109 ?_
  refine r_iload_n C dX12_isSo_112 1 rfl ?_
  refine r_iconst (v := 3) C dX12_isSo_113 (by decide) ?_
  refine r_iadd C dX12_isSo_114 ?_
  refine r_iaload C hw.1 hw.2.1 dX12_isSo_115 ?_
  replace hw := hw.2.2
  have hob := hw.1
  replace hw := hw.2
  refine r_callV C (As := [.int iv3, .int (aI h rv14 (iv1 + (2 : Int32)).toNatClampNeg), .int (aI h rv15 (iv1 + (3 : Int32)).toNatClampNeg)]) (rest := []) (c_X12_isOn G h a0 iv3 (aI h rv14 (iv1 + (2 : Int32)).toNatClampNeg) (aI h rv15 (iv1 + (3 : Int32)).toNatClampNeg) _ hw) yl_X12_isOn (gm8 (List.mem_of_getElem? (i := 65) rfl) rfl) (gm8 (List.mem_of_getElem? (i := 67) rfl) rfl) (ci := 11) rfl (by decide) (gsel (List.mem_of_getElem? (i := 71) rfl)) hob (by decide) rfl (Nat.le_of_ble_eq_true rfl) dX12_isSo_116 rfl (kI fun hv16 iv17 hw => ?_)
  exact r_zret C hr dX12_isSo_119 hw.1 hw.2
theorem dX12_soNow_0 : decode cX12_soNow 0 = .ok (.iconst 0, 1) := by decide +kernel
theorem dX12_soNow_1 : decode cX12_soNow 1 = .ok (.istore_n 1, 1) := by decide +kernel
theorem dX12_soNow_2 : decode cX12_soNow 2 = .ok (.iconst 0, 1) := by decide +kernel
theorem dX12_soNow_3 : decode cX12_soNow 3 = .ok (.istore_n 2, 1) := by decide +kernel
theorem dX12_soNow_4 : decode cX12_soNow 4 = .ok (.iload_n 2, 1) := by decide +kernel
theorem dX12_soNow_5 : decode cX12_soNow 5 = .ok (.aload_n 0, 1) := by decide +kernel
theorem dX12_soNow_6 : decode cX12_soNow 6 = .ok (.getfield 33, 3) := by decide +kernel
theorem dX12_soNow_9 : decode cX12_soNow 9 = .ok (.iconst 5, 1) := by decide +kernel
theorem dX12_soNow_10 : decode cX12_soNow 10 = .ok (.iaload, 1) := by decide +kernel
theorem dX12_soNow_11 : decode cX12_soNow 11 = .ok (.if_icmp .ge 27, 3) := by decide +kernel
theorem dX12_soNow_14 : decode cX12_soNow 14 = .ok (.iload_n 1, 1) := by decide +kernel
theorem dX12_soNow_15 : decode cX12_soNow 15 = .ok (.aload_n 0, 1) := by decide +kernel
theorem dX12_soNow_16 : decode cX12_soNow 16 = .ok (.iload_n 2, 1) := by decide +kernel
theorem dX12_soNow_17 : decode cX12_soNow 17 = .ok (.invokevirtual 359, 3) := by decide +kernel
theorem dX12_soNow_20 : decode cX12_soNow 20 = .ok (.ifCond .eq 9, 3) := by decide +kernel
theorem dX12_soNow_23 : decode cX12_soNow 23 = .ok (.iconst 1, 1) := by decide +kernel
theorem dX12_soNow_24 : decode cX12_soNow 24 = .ok (.iload_n 2, 1) := by decide +kernel
theorem dX12_soNow_25 : decode cX12_soNow 25 = .ok (.ishl, 1) := by decide +kernel
theorem dX12_soNow_26 : decode cX12_soNow 26 = .ok (.goto 4, 3) := by decide +kernel
theorem dX12_soNow_29 : decode cX12_soNow 29 = .ok (.iconst 0, 1) := by decide +kernel
theorem dX12_soNow_30 : decode cX12_soNow 30 = .ok (.ior, 1) := by decide +kernel
theorem dX12_soNow_31 : decode cX12_soNow 31 = .ok (.istore_n 1, 1) := by decide +kernel
theorem dX12_soNow_32 : decode cX12_soNow 32 = .ok (.iinc 2 1, 3) := by decide +kernel
theorem dX12_soNow_35 : decode cX12_soNow 35 = .ok (.goto (-31), 3) := by decide +kernel
theorem dX12_soNow_38 : decode cX12_soNow 38 = .ok (.iload_n 1, 1) := by decide +kernel
theorem dX12_soNow_39 : decode cX12_soNow 39 = .ok (.ireturn, 1) := by decide +kernel
def wb_X12_soNow_30 (K4 : AH → Nat → Int32 → Int32 → Prop) (h : AH) (al0 : Nat) (xl2 : Int32) (xs0 : Int32) (xs1 : Int32) (post : AH → Int32 → Prop) : Prop := ∀ iv1 : Int32, iv1 = xs1 ||| xs0 → (∀ iv2 : Int32, iv2 = xl2 + 1 → (K4 h al0 iv1 iv2))
set_option maxRecDepth 100000 in
theorem tb_X12_soNow_30 {G : GG} {p : Program} {l : Launch} {e : Env} {R : Room} {s : State} {m : MethodId} {args : Array Value} {below : List Frame} {meth : Method} {c : Code} {n0 s0 : Nat} {post : AH → Int32 → Prop} (C : Cx G p R s m args meth c 3 cX12_soNow RX12 n0 s0 4 92) (hr : meth.sig.returnType = (some .int)) {K4 : AH → Nat → Int32 → Int32 → Prop} (hK4 : ∀ (h : AH) (al0 : Nat) (xl1 : Int32) (xl2 : Int32), K4 h al0 xl1 xl2 → AW G p l e R s m args below meth c 3 (QM G (pI post) args s below n0 s0) 4 [(0, .ref (G.1 + al0)), (1, .int xl1), (2, .int xl2)] [] h) {h : AH} {al0 : Nat} {xl2 : Int32} {xs0 : Int32} {xs1 : Int32} (hw : wb_X12_soNow_30 K4 h al0 xl2 xs0 xs1 post) : AW G p l e R s m args below meth c 3 (QM G (pI post) args s below n0 s0) 30 [(0, .ref (G.1 + al0)), (2, .int xl2)] [.int xs0, .int xs1] h := by
  unfold wb_X12_soNow_30 at hw
  refine r_ior C dX12_soNow_30 ?_
  refine r_topi fun iv1 eiv1 => ?_
  replace hw := hw iv1 eiv1
  refine r_istore_n C dX12_soNow_31 [(1, .int iv1), (0, .ref (G.1 + al0)), (2, .int xl2)] (by decide) rfl ?_
  obtain ⟨iv2, eiv2⟩ : ∃ q : Int32, q = xl2 + 1 := ⟨_, rfl⟩
  replace hw := hw iv2 eiv2
  refine r_iinc C dX12_soNow_32 2 rfl (by rw [eiv2]; rfl) [(2, .int iv2), (1, .int iv1), (0, .ref (G.1 + al0))] (by decide) rfl ?_
  refine r_goto C dX12_soNow_35 4 (by decide) ?_
  refine r_sub [2, 1, 0] rfl ?_
  exact hK4 _ _ _ _ hw
def wb_X12_soNow_4 (K4 : AH → Nat → Int32 → Int32 → Prop) (h : AH) (al0 : Nat) (xl1 : Int32) (xl2 : Int32)  (post : AH → Int32 → Prop) : Prop := (ob h al0 11) ∧ (∃ rv1, aP h al0 6 = some rv1 ∧ ((ob h rv1 13) ∧ ((vp_in 5 (aL h rv1)) ∧ (((aI h rv1 (5 : Int32).toNatClampNeg) ≤ xl2 → (post h xl1)) ∧ (¬ (aI h rv1 (5 : Int32).toNatClampNeg) ≤ xl2 → ((ob h al0 11) ∧ wp_X12_isSo h al0 xl2 (fun hv2 iv3 => (iv3 = 0 → (wb_X12_soNow_30 K4 hv2 al0 xl2 0 xl1 post)) ∧ (¬ iv3 = 0 → (wb_X12_soNow_30 K4 hv2 al0 xl2 ((1 : Int32) <<< (xl2 &&& 31)) xl1 post)))))))))
set_option maxRecDepth 100000 in
theorem tb_X12_soNow_4 {G : GG} {p : Program} {l : Launch} {e : Env} {R : Room} {s : State} {m : MethodId} {args : Array Value} {below : List Frame} {meth : Method} {c : Code} {n0 s0 : Nat} {post : AH → Int32 → Prop} (C : Cx G p R s m args meth c 3 cX12_soNow RX12 n0 s0 4 92) (hr : meth.sig.returnType = (some .int)) {K4 : AH → Nat → Int32 → Int32 → Prop} (hK4 : ∀ (h : AH) (al0 : Nat) (xl1 : Int32) (xl2 : Int32), K4 h al0 xl1 xl2 → AW G p l e R s m args below meth c 3 (QM G (pI post) args s below n0 s0) 4 [(0, .ref (G.1 + al0)), (1, .int xl1), (2, .int xl2)] [] h) {h : AH} {al0 : Nat} {xl1 : Int32} {xl2 : Int32}  (hw : wb_X12_soNow_4 K4 h al0 xl1 xl2 post) : AW G p l e R s m args below meth c 3 (QM G (pI post) args s below n0 s0) 4 [(0, .ref (G.1 + al0)), (1, .int xl1), (2, .int xl2)] [] h := by
  unfold wb_X12_soNow_4 at hw
  refine r_iload_n C dX12_soNow_4 2 rfl ?_
  refine r_aload_n C dX12_soNow_5 0 rfl ?_
  have hob := hw.1
  obtain ⟨rv1, hp, hw⟩ := hw.2
  refine r_getP C fl_RX12_33_11 hob hp (fun _ _ _ => rfl) dX12_soNow_6 ?_
  refine r_iconst (v := 5) C dX12_soNow_9 (by decide) ?_
  refine r_iaload C hw.1 hw.2.1 dX12_soNow_10 ?_
  replace hw := hw.2.2
  refine r_icmp_ge C dX12_soNow_11 38 (by decide) (fun hc => ?_) (fun hc => ?_)
  · replace hw := hw.1 hc
    refine r_iload_n C dX12_soNow_38 1 rfl ?_
    exact r_iret C hr dX12_soNow_39 hw
  · replace hw := hw.2 hc
    refine r_iload_n C dX12_soNow_14 1 rfl ?_
    refine r_aload_n C dX12_soNow_15 0 rfl ?_
    refine r_iload_n C dX12_soNow_16 2 rfl ?_
    have hob := hw.1
    replace hw := hw.2
    refine r_callV C (As := [.int xl2]) (rest := [.int xl1]) (c_X12_isSo G h al0 xl2 _ hw) yl_X12_isSo (gm8 (List.mem_of_getElem? (i := 145) rfl) rfl) (gm8 (List.mem_of_getElem? (i := 147) rfl) rfl) (ci := 11) rfl (by decide) (gsel (List.mem_of_getElem? (i := 84) rfl)) hob (by decide) rfl (Nat.le_of_ble_eq_true rfl) dX12_soNow_17 rfl (kI fun hv2 iv3 hw => ?_)
    refine r_if_eq C dX12_soNow_20 29 (by decide) (fun hc => ?_) (fun hc => ?_)
    · replace hw := hw.1 hc
      refine r_iconst (v := 0) C dX12_soNow_29 (by decide) ?_
      refine r_sub [0, 2] rfl ?_
      exact tb_X12_soNow_30 C hr hK4 hw
    · replace hw := hw.2 hc
      refine r_iconst (v := 1) C dX12_soNow_23 (by decide) ?_
      refine r_iload_n C dX12_soNow_24 2 rfl ?_
      refine r_ishl C dX12_soNow_25 ?_
      refine r_goto C dX12_soNow_26 30 (by decide) ?_
      refine r_sub [0, 2] rfl ?_
      exact tb_X12_soNow_30 C hr hK4 hw
def wl_X12_soNow_4  (post : AH → Int32 → Prop) : Nat → AH → Nat → Int32 → Int32 → Prop
  | 0 => fun _ _ _ _ => False
  | n + 1 => fun h al0 xl1 xl2 => wb_X12_soNow_4  (wl_X12_soNow_4  post n) h al0 xl1 xl2 post
theorem tl_X12_soNow_4 {G : GG} {p : Program} {l : Launch} {e : Env} {R : Room} {s : State} {m : MethodId} {args : Array Value} {below : List Frame} {meth : Method} {c : Code} {n0 s0 : Nat} {post : AH → Int32 → Prop} (C : Cx G p R s m args meth c 3 cX12_soNow RX12 n0 s0 4 92) (hr : meth.sig.returnType = (some .int))   : ∀ (n : Nat) (h : AH) (al0 : Nat) (xl1 : Int32) (xl2 : Int32), wl_X12_soNow_4  post n h al0 xl1 xl2 → AW G p l e R s m args below meth c 3 (QM G (pI post) args s below n0 s0) 4 [(0, .ref (G.1 + al0)), (1, .int xl1), (2, .int xl2)] [] h := by
  intro n
  induction n with
  | zero => intro h al0 xl1 xl2 hw; exact hw.elim
  | succ n ih => intro h al0 xl1 xl2 hw; exact tb_X12_soNow_4 C hr  ih hw
def wp_X12_soNow (h : AH) (a0 : Nat) (post : AH → Int32 → Prop) : Prop := ∃ n, wl_X12_soNow_4  post n h a0 0 0
set_option maxRecDepth 100000 in
theorem c_X12_soNow (G : GG) (h : AH) (a0 : Nat) (post : AH → Int32 → Prop) (hw : wp_X12_soNow h a0 post) : MC G yX12_soNow cX12_soNow 3 (some .int) 4 92 h [.ref (G.1 + a0)] (pI post) := by
  refine MC.of (lv := [(0, .ref (G.1 + a0))]) (by decide) (Nat.le_of_ble_eq_true rfl) rfl fun p l e R s m args below meth c C hr hnm => ?_
  unfold wp_X12_soNow at hw
  refine r_iconst (v := 0) C dX12_soNow_0 (by decide) ?_
  refine r_istore_n C dX12_soNow_1 [(1, .int 0), (0, .ref (G.1 + a0))] (by decide) rfl ?_
  refine r_iconst (v := 0) C dX12_soNow_2 (by decide) ?_
  refine r_istore_n C dX12_soNow_3 [(2, .int 0), (1, .int 0), (0, .ref (G.1 + a0))] (by decide) rfl ?_
  refine r_sub [2, 1, 0] rfl ?_
  obtain ⟨n, hw⟩ := hw
  exact tl_X12_soNow_4 C hr  n _ _ _ _ hw
theorem dX12_met_0 : decode cX12_met 0 = .ok (.iconst 0, 1) := by decide +kernel
theorem dX12_met_1 : decode cX12_met 1 = .ok (.istore_n 1, 1) := by decide +kernel
theorem dX12_met_2 : decode cX12_met 2 = .ok (.iconst 0, 1) := by decide +kernel
theorem dX12_met_3 : decode cX12_met 3 = .ok (.istore_n 2, 1) := by decide +kernel
theorem dX12_met_4 : decode cX12_met 4 = .ok (.iload_n 2, 1) := by decide +kernel
theorem dX12_met_5 : decode cX12_met 5 = .ok (.aload_n 0, 1) := by decide +kernel
theorem dX12_met_6 : decode cX12_met 6 = .ok (.getfield 33, 3) := by decide +kernel
theorem dX12_met_9 : decode cX12_met 9 = .ok (.iconst 5, 1) := by decide +kernel
theorem dX12_met_10 : decode cX12_met 10 = .ok (.iaload, 1) := by decide +kernel
theorem dX12_met_11 : decode cX12_met 11 = .ok (.if_icmp .ge 38, 3) := by decide +kernel
theorem dX12_met_14 : decode cX12_met 14 = .ok (.iload_n 1, 1) := by decide +kernel
theorem dX12_met_15 : decode cX12_met 15 = .ok (.aload_n 0, 1) := by decide +kernel
theorem dX12_met_16 : decode cX12_met 16 = .ok (.iload_n 2, 1) := by decide +kernel
theorem dX12_met_17 : decode cX12_met 17 = .ok (.invokevirtual 359, 3) := by decide +kernel
theorem dX12_met_20 : decode cX12_met 20 = .ok (.ifCond .eq 20, 3) := by decide +kernel
theorem dX12_met_23 : decode cX12_met 23 = .ok (.aload_n 0, 1) := by decide +kernel
theorem dX12_met_24 : decode cX12_met 24 = .ok (.getfield 33, 3) := by decide +kernel
theorem dX12_met_27 : decode cX12_met 27 = .ok (.sipush 175, 3) := by decide +kernel
theorem dX12_met_30 : decode cX12_met 30 = .ok (.iconst 5, 1) := by decide +kernel
theorem dX12_met_31 : decode cX12_met 31 = .ok (.iload_n 2, 1) := by decide +kernel
theorem dX12_met_32 : decode cX12_met 32 = .ok (.imul, 1) := by decide +kernel
theorem dX12_met_33 : decode cX12_met 33 = .ok (.iadd, 1) := by decide +kernel
theorem dX12_met_34 : decode cX12_met 34 = .ok (.iconst 4, 1) := by decide +kernel
theorem dX12_met_35 : decode cX12_met 35 = .ok (.iadd, 1) := by decide +kernel
theorem dX12_met_36 : decode cX12_met 36 = .ok (.iaload, 1) := by decide +kernel
theorem dX12_met_37 : decode cX12_met 37 = .ok (.goto 4, 3) := by decide +kernel
theorem dX12_met_40 : decode cX12_met 40 = .ok (.iconst 0, 1) := by decide +kernel
theorem dX12_met_41 : decode cX12_met 41 = .ok (.iadd, 1) := by decide +kernel
theorem dX12_met_42 : decode cX12_met 42 = .ok (.istore_n 1, 1) := by decide +kernel
theorem dX12_met_43 : decode cX12_met 43 = .ok (.iinc 2 1, 3) := by decide +kernel
theorem dX12_met_46 : decode cX12_met 46 = .ok (.goto (-42), 3) := by decide +kernel
theorem dX12_met_49 : decode cX12_met 49 = .ok (.iload_n 1, 1) := by decide +kernel
theorem dX12_met_50 : decode cX12_met 50 = .ok (.ireturn, 1) := by decide +kernel
def wb_X12_met_41 (K4 : AH → Nat → Int32 → Int32 → Prop) (h : AH) (al0 : Nat) (xl2 : Int32) (xs0 : Int32) (xs1 : Int32) (post : AH → Int32 → Prop) : Prop := ∀ iv1 : Int32, iv1 = xs1 + xs0 → (∀ iv2 : Int32, iv2 = xl2 + 1 → (K4 h al0 iv1 iv2))
set_option maxRecDepth 100000 in
theorem tb_X12_met_41 {G : GG} {p : Program} {l : Launch} {e : Env} {R : Room} {s : State} {m : MethodId} {args : Array Value} {below : List Frame} {meth : Method} {c : Code} {n0 s0 : Nat} {post : AH → Int32 → Prop} (C : Cx G p R s m args meth c 3 cX12_met RX12 n0 s0 4 92) (hr : meth.sig.returnType = (some .int)) {K4 : AH → Nat → Int32 → Int32 → Prop} (hK4 : ∀ (h : AH) (al0 : Nat) (xl1 : Int32) (xl2 : Int32), K4 h al0 xl1 xl2 → AW G p l e R s m args below meth c 3 (QM G (pI post) args s below n0 s0) 4 [(0, .ref (G.1 + al0)), (1, .int xl1), (2, .int xl2)] [] h) {h : AH} {al0 : Nat} {xl2 : Int32} {xs0 : Int32} {xs1 : Int32} (hw : wb_X12_met_41 K4 h al0 xl2 xs0 xs1 post) : AW G p l e R s m args below meth c 3 (QM G (pI post) args s below n0 s0) 41 [(0, .ref (G.1 + al0)), (2, .int xl2)] [.int xs0, .int xs1] h := by
  unfold wb_X12_met_41 at hw
  refine r_iadd C dX12_met_41 ?_
  refine r_topi fun iv1 eiv1 => ?_
  replace hw := hw iv1 eiv1
  refine r_istore_n C dX12_met_42 [(1, .int iv1), (0, .ref (G.1 + al0)), (2, .int xl2)] (by decide) rfl ?_
  obtain ⟨iv2, eiv2⟩ : ∃ q : Int32, q = xl2 + 1 := ⟨_, rfl⟩
  replace hw := hw iv2 eiv2
  refine r_iinc C dX12_met_43 2 rfl (by rw [eiv2]; rfl) [(2, .int iv2), (1, .int iv1), (0, .ref (G.1 + al0))] (by decide) rfl ?_
  refine r_goto C dX12_met_46 4 (by decide) ?_
  refine r_sub [2, 1, 0] rfl ?_
  exact hK4 _ _ _ _ hw
def wb_X12_met_4 (K4 : AH → Nat → Int32 → Int32 → Prop) (h : AH) (al0 : Nat) (xl1 : Int32) (xl2 : Int32)  (post : AH → Int32 → Prop) : Prop := (ob h al0 11) ∧ (∃ rv1, aP h al0 6 = some rv1 ∧ ((ob h rv1 13) ∧ ((vp_in 5 (aL h rv1)) ∧ (((aI h rv1 (5 : Int32).toNatClampNeg) ≤ xl2 → (post h xl1)) ∧ (¬ (aI h rv1 (5 : Int32).toNatClampNeg) ≤ xl2 → ((ob h al0 11) ∧ wp_X12_isSo h al0 xl2 (fun hv2 iv3 => (iv3 = 0 → (wb_X12_met_41 K4 hv2 al0 xl2 0 xl1 post)) ∧ (¬ iv3 = 0 → ((ob hv2 al0 11) ∧ (∃ rv4, aP hv2 al0 6 = some rv4 ∧ ((ob hv2 rv4 13) ∧ ((vp_in (((175 : Int32) + ((5 : Int32) * xl2)) + (4 : Int32)) (aL hv2 rv4)) ∧ (wb_X12_met_41 K4 hv2 al0 xl2 (aI hv2 rv4 (((175 : Int32) + ((5 : Int32) * xl2)) + (4 : Int32)).toNatClampNeg) xl1 post)))))))))))))
set_option maxRecDepth 100000 in
theorem tb_X12_met_4 {G : GG} {p : Program} {l : Launch} {e : Env} {R : Room} {s : State} {m : MethodId} {args : Array Value} {below : List Frame} {meth : Method} {c : Code} {n0 s0 : Nat} {post : AH → Int32 → Prop} (C : Cx G p R s m args meth c 3 cX12_met RX12 n0 s0 4 92) (hr : meth.sig.returnType = (some .int)) {K4 : AH → Nat → Int32 → Int32 → Prop} (hK4 : ∀ (h : AH) (al0 : Nat) (xl1 : Int32) (xl2 : Int32), K4 h al0 xl1 xl2 → AW G p l e R s m args below meth c 3 (QM G (pI post) args s below n0 s0) 4 [(0, .ref (G.1 + al0)), (1, .int xl1), (2, .int xl2)] [] h) {h : AH} {al0 : Nat} {xl1 : Int32} {xl2 : Int32}  (hw : wb_X12_met_4 K4 h al0 xl1 xl2 post) : AW G p l e R s m args below meth c 3 (QM G (pI post) args s below n0 s0) 4 [(0, .ref (G.1 + al0)), (1, .int xl1), (2, .int xl2)] [] h := by
  unfold wb_X12_met_4 at hw
  refine r_iload_n C dX12_met_4 2 rfl ?_
  refine r_aload_n C dX12_met_5 0 rfl ?_
  have hob := hw.1
  obtain ⟨rv1, hp, hw⟩ := hw.2
  refine r_getP C fl_RX12_33_11 hob hp (fun _ _ _ => rfl) dX12_met_6 ?_
  refine r_iconst (v := 5) C dX12_met_9 (by decide) ?_
  refine r_iaload C hw.1 hw.2.1 dX12_met_10 ?_
  replace hw := hw.2.2
  refine r_icmp_ge C dX12_met_11 49 (by decide) (fun hc => ?_) (fun hc => ?_)
  · replace hw := hw.1 hc
    refine r_iload_n C dX12_met_49 1 rfl ?_
    exact r_iret C hr dX12_met_50 hw
  · replace hw := hw.2 hc
    refine r_iload_n C dX12_met_14 1 rfl ?_
    refine r_aload_n C dX12_met_15 0 rfl ?_
    refine r_iload_n C dX12_met_16 2 rfl ?_
    have hob := hw.1
    replace hw := hw.2
    refine r_callV C (As := [.int xl2]) (rest := [.int xl1]) (c_X12_isSo G h al0 xl2 _ hw) yl_X12_isSo (gm8 (List.mem_of_getElem? (i := 145) rfl) rfl) (gm8 (List.mem_of_getElem? (i := 147) rfl) rfl) (ci := 11) rfl (by decide) (gsel (List.mem_of_getElem? (i := 84) rfl)) hob (by decide) rfl (Nat.le_of_ble_eq_true rfl) dX12_met_17 rfl (kI fun hv2 iv3 hw => ?_)
    refine r_if_eq C dX12_met_20 40 (by decide) (fun hc => ?_) (fun hc => ?_)
    · replace hw := hw.1 hc
      refine r_iconst (v := 0) C dX12_met_40 (by decide) ?_
      refine r_sub [0, 2] rfl ?_
      exact tb_X12_met_41 C hr hK4 hw
    · replace hw := hw.2 hc
      refine r_aload_n C dX12_met_23 0 rfl ?_
      have hob := hw.1
      obtain ⟨rv4, hp, hw⟩ := hw.2
      refine r_getP C fl_RX12_33_11 hob hp (fun _ _ _ => rfl) dX12_met_24 ?_
      refine r_sipush (v := 175) C dX12_met_27 (by decide) ?_
      refine r_iconst (v := 5) C dX12_met_30 (by decide) ?_
      refine r_iload_n C dX12_met_31 2 rfl ?_
      refine r_imul C dX12_met_32 ?_
      refine r_iadd C dX12_met_33 ?_
      refine r_iconst (v := 4) C dX12_met_34 (by decide) ?_
      refine r_iadd C dX12_met_35 ?_
      refine r_iaload C hw.1 hw.2.1 dX12_met_36 ?_
      replace hw := hw.2.2
      refine r_goto C dX12_met_37 41 (by decide) ?_
      refine r_sub [0, 2] rfl ?_
      exact tb_X12_met_41 C hr hK4 hw
def wl_X12_met_4  (post : AH → Int32 → Prop) : Nat → AH → Nat → Int32 → Int32 → Prop
  | 0 => fun _ _ _ _ => False
  | n + 1 => fun h al0 xl1 xl2 => wb_X12_met_4  (wl_X12_met_4  post n) h al0 xl1 xl2 post
theorem tl_X12_met_4 {G : GG} {p : Program} {l : Launch} {e : Env} {R : Room} {s : State} {m : MethodId} {args : Array Value} {below : List Frame} {meth : Method} {c : Code} {n0 s0 : Nat} {post : AH → Int32 → Prop} (C : Cx G p R s m args meth c 3 cX12_met RX12 n0 s0 4 92) (hr : meth.sig.returnType = (some .int))   : ∀ (n : Nat) (h : AH) (al0 : Nat) (xl1 : Int32) (xl2 : Int32), wl_X12_met_4  post n h al0 xl1 xl2 → AW G p l e R s m args below meth c 3 (QM G (pI post) args s below n0 s0) 4 [(0, .ref (G.1 + al0)), (1, .int xl1), (2, .int xl2)] [] h := by
  intro n
  induction n with
  | zero => intro h al0 xl1 xl2 hw; exact hw.elim
  | succ n ih => intro h al0 xl1 xl2 hw; exact tb_X12_met_4 C hr  ih hw
def wp_X12_met (h : AH) (a0 : Nat) (post : AH → Int32 → Prop) : Prop := ∃ n, wl_X12_met_4  post n h a0 0 0
set_option maxRecDepth 100000 in
theorem c_X12_met (G : GG) (h : AH) (a0 : Nat) (post : AH → Int32 → Prop) (hw : wp_X12_met h a0 post) : MC G yX12_met cX12_met 3 (some .int) 4 92 h [.ref (G.1 + a0)] (pI post) := by
  refine MC.of (lv := [(0, .ref (G.1 + a0))]) (by decide) (Nat.le_of_ble_eq_true rfl) rfl fun p l e R s m args below meth c C hr hnm => ?_
  unfold wp_X12_met at hw
  refine r_iconst (v := 0) C dX12_met_0 (by decide) ?_
  refine r_istore_n C dX12_met_1 [(1, .int 0), (0, .ref (G.1 + a0))] (by decide) rfl ?_
  refine r_iconst (v := 0) C dX12_met_2 (by decide) ?_
  refine r_istore_n C dX12_met_3 [(2, .int 0), (1, .int 0), (0, .ref (G.1 + a0))] (by decide) rfl ?_
  refine r_sub [2, 1, 0] rfl ?_
  obtain ⟨n, hw⟩ := hw
  exact tl_X12_met_4 C hr  n _ _ _ _ hw
theorem dX12_wants_0 : decode cX12_wants 0 = .ok (.aload_n 0, 1) := by decide +kernel
theorem dX12_wants_1 : decode cX12_wants 1 = .ok (.iconst 0, 1) := by decide +kernel
theorem dX12_wants_2 : decode cX12_wants 2 = .ok (.putfield 1, 3) := by decide +kernel
theorem dX12_wants_5 : decode cX12_wants 5 = .ok (.iload_n 1, 1) := by decide +kernel
theorem dX12_wants_6 : decode cX12_wants 6 = .ok (.iconst 0, 1) := by decide +kernel
theorem dX12_wants_7 : decode cX12_wants 7 = .ok (.iconst 1, 1) := by decide +kernel
theorem dX12_wants_8 : decode cX12_wants 8 = .ok (.invokestatic 196, 3) := by decide +kernel
theorem dX12_wants_11 : decode cX12_wants 11 = .ok (.ifCond .ne 5, 3) := by decide +kernel
theorem dX12_wants_14 : decode cX12_wants 14 = .ok (.iconst (-1), 1) := by decide +kernel
theorem dX12_wants_15 : decode cX12_wants 15 = .ok (.ireturn, 1) := by decide +kernel
theorem dX12_wants_16 : decode cX12_wants 16 = .ok (.aload_n 0, 1) := by decide +kernel
theorem dX12_wants_17 : decode cX12_wants 17 = .ok (.invokevirtual 317, 3) := by decide +kernel
theorem dX12_wants_20 : decode cX12_wants 20 = .ok (.iload_n 1, 1) := by decide +kernel
theorem dX12_wants_21 : decode cX12_wants 21 = .ok (.ifCond .ne 10, 3) := by decide +kernel
theorem dX12_wants_24 : decode cX12_wants 24 = .ok (.aload_n 0, 1) := by decide +kernel
theorem dX12_wants_25 : decode cX12_wants 25 = .ok (.invokevirtual 362, 3) := by decide +kernel
theorem dX12_wants_28 : decode cX12_wants 28 = .ok (.goto 7, 3) := by decide +kernel
theorem dX12_wants_31 : decode cX12_wants 31 = .ok (.aload_n 0, 1) := by decide +kernel
theorem dX12_wants_32 : decode cX12_wants 32 = .ok (.invokevirtual 365, 3) := by decide +kernel
theorem dX12_wants_35 : decode cX12_wants 35 = .ok (.ireturn, 1) := by decide +kernel
def wp_X12_wants (h : AH) (a0 : Nat) (x1 : Int32) (post : AH → Int32 → Prop) : Prop := (ob h a0 11) ∧ (∀ hv1 : AH, hv1 = hI h a0 0 0 → (wp_X12_isIn hv1 x1 0 1 (fun hv2 iv3 => (¬ iv3 = 0 → ((ob hv2 a0 11) ∧ wp_X12_asItIs hv2 a0  (fun hv4  => (¬ x1 = 0 → ((ob hv4 a0 11) ∧ wp_X12_soNow hv4 a0  (fun hv5 iv6 => post hv5 iv6))) ∧ (x1 = 0 → ((ob hv4 a0 11) ∧ wp_X12_met hv4 a0  (fun hv7 iv8 => post hv7 iv8)))))) ∧ (iv3 = 0 → (post hv2 (-1))))))
set_option maxRecDepth 100000 in
theorem c_X12_wants (G : GG) (h : AH) (a0 : Nat) (x1 : Int32) (post : AH → Int32 → Prop) (hw : wp_X12_wants h a0 x1 post) : MC G yX12_wants cX12_wants 2 (some .int) 5 114 h [.ref (G.1 + a0), .int x1] (pI post) := by
  refine MC.of (lv := [(0, .ref (G.1 + a0)), (1, .int x1)]) (by decide) (Nat.le_of_ble_eq_true rfl) rfl fun p l e R s m args below meth c C hr hnm => ?_
  unfold wp_X12_wants at hw
  refine r_aload_n C dX12_wants_0 0 rfl ?_
  refine r_iconst (v := 0) C dX12_wants_1 (by decide) ?_
  refine r_putI C fp_RX12_1_11 hw.1 rfl dX12_wants_2 ?_
  replace hw := hw.2
  refine r_toph fun hv1 ehv1 => ?_
  replace hw := hw hv1 ehv1
  refine r_iload_n C dX12_wants_5 1 rfl ?_
  refine r_iconst (v := 0) C dX12_wants_6 (by decide) ?_
  refine r_iconst (v := 1) C dX12_wants_7 (by decide) ?_
  refine r_callS C (As := [.int x1, .int 0, .int 1]) (rest := []) (c_X12_isIn G hv1 x1 0 1 _ hw) yl_X12_isIn (gm7 (List.mem_of_getElem? (i := 189) rfl) rfl) (gm7 (List.mem_of_getElem? (i := 190) rfl) rfl) (by decide) rfl (Nat.le_of_ble_eq_true rfl) dX12_wants_8 rfl (kI fun hv2 iv3 hw => ?_)
  refine r_if_ne C dX12_wants_11 16 (by decide) (fun hc => ?_) (fun hc => ?_)
  · replace hw := hw.1 hc
    refine r_aload_n C dX12_wants_16 0 rfl ?_
    have hob := hw.1
    replace hw := hw.2
    refine r_callV C (As := []) (rest := []) (c_X12_asItIs G hv2 a0  _ hw) yl_X12_asItIs (gm8 (List.mem_of_getElem? (i := 57) rfl) rfl) (gm8 (List.mem_of_getElem? (i := 59) rfl) rfl) (ci := 11) rfl (by decide) (gsel (List.mem_of_getElem? (i := 70) rfl)) hob (by decide) rfl (Nat.le_of_ble_eq_true rfl) dX12_wants_17 rfl (kV fun hv4  hw => ?_)
    refine r_iload_n C dX12_wants_20 1 rfl ?_
    refine r_if_ne C dX12_wants_21 31 (by decide) (fun hc => ?_) (fun hc => ?_)
    · replace hw := hw.1 hc
      refine r_aload_n C dX12_wants_31 0 rfl ?_
      have hob := hw.1
      replace hw := hw.2
      refine r_callV C (As := []) (rest := []) (c_X12_soNow G hv4 a0  _ hw) yl_X12_soNow (gm8 (List.mem_of_getElem? (i := 157) rfl) rfl) (gm8 (List.mem_of_getElem? (i := 159) rfl) rfl) (ci := 11) rfl (by decide) (gsel (List.mem_of_getElem? (i := 87) rfl)) hob (by decide) rfl (Nat.le_of_ble_eq_true rfl) dX12_wants_32 rfl (kI fun hv5 iv6 hw => ?_)
      exact r_iret C hr dX12_wants_35 hw
    · replace hw := hw.2 hc
      refine r_aload_n C dX12_wants_24 0 rfl ?_
      have hob := hw.1
      replace hw := hw.2
      refine r_callV C (As := []) (rest := []) (c_X12_met G hv4 a0  _ hw) yl_X12_met (gm8 (List.mem_of_getElem? (i := 141) rfl) rfl) (gm8 (List.mem_of_getElem? (i := 143) rfl) rfl) (ci := 11) rfl (by decide) (gsel (List.mem_of_getElem? (i := 83) rfl)) hob (by decide) rfl (Nat.le_of_ble_eq_true rfl) dX12_wants_25 rfl (kI fun hv7 iv8 hw => ?_)
      refine r_goto C dX12_wants_28 35 (by decide) ?_
      exact r_iret C hr dX12_wants_35 hw
  · replace hw := hw.2 hc
    refine r_iconst (v := (-1)) C dX12_wants_14 (by decide) ?_
    exact r_iret C hr dX12_wants_15 hw
theorem dX12_act_0 : decode cX12_act 0 = .ok (.aload_n 0, 1) := by decide +kernel
theorem dX12_act_1 : decode cX12_act 1 = .ok (.ldc2_w 145, 3) := by decide +kernel
theorem dX12_act_4 : decode cX12_act 4 = .ok (.invokevirtual 221, 3) := by decide +kernel
theorem dX12_act_7 : decode cX12_act 7 = .ok (.ifCond .eq 7, 3) := by decide +kernel
theorem dX12_act_10 : decode cX12_act 10 = .ok (.iconst 0, 1) := by decide +kernel
theorem dX12_act_11 : decode cX12_act 11 = .ok (.goto 32, 3) := by decide +kernel
theorem dX12_act_14 : decode cX12_act 14 = .ok (.aload_n 0, 1) := by decide +kernel
theorem dX12_act_15 : decode cX12_act 15 = .ok (.ldc2_w 147, 3) := by decide +kernel
theorem dX12_act_18 : decode cX12_act 18 = .ok (.invokevirtual 221, 3) := by decide +kernel
theorem dX12_act_21 : decode cX12_act 21 = .ok (.ifCond .eq 7, 3) := by decide +kernel
theorem dX12_act_24 : decode cX12_act 24 = .ok (.iconst 4, 1) := by decide +kernel
theorem dX12_act_25 : decode cX12_act 25 = .ok (.goto 18, 3) := by decide +kernel
theorem dX12_act_28 : decode cX12_act 28 = .ok (.aload_n 0, 1) := by decide +kernel
theorem dX12_act_29 : decode cX12_act 29 = .ok (.ldc2_w 149, 3) := by decide +kernel
theorem dX12_act_32 : decode cX12_act 32 = .ok (.invokevirtual 221, 3) := by decide +kernel
theorem dX12_act_35 : decode cX12_act 35 = .ok (.ifCond .eq 7, 3) := by decide +kernel
theorem dX12_act_38 : decode cX12_act 38 = .ok (.iconst 5, 1) := by decide +kernel
theorem dX12_act_39 : decode cX12_act 39 = .ok (.goto 4, 3) := by decide +kernel
theorem dX12_act_42 : decode cX12_act 42 = .ok (.iconst (-1), 1) := by decide +kernel
theorem dX12_act_43 : decode cX12_act 43 = .ok (.istore_n 1, 1) := by decide +kernel
theorem dX12_act_44 : decode cX12_act 44 = .ok (.iload_n 1, 1) := by decide +kernel
theorem dX12_act_45 : decode cX12_act 45 = .ok (.ifCond .ge 9, 3) := by decide +kernel
theorem dX12_act_48 : decode cX12_act 48 = .ok (.aload_n 0, 1) := by decide +kernel
theorem dX12_act_49 : decode cX12_act 49 = .ok (.iconst 1, 1) := by decide +kernel
theorem dX12_act_50 : decode cX12_act 50 = .ok (.invokevirtual 190, 3) := by decide +kernel
theorem dX12_act_53 : decode cX12_act 53 = .ok (.ireturn, 1) := by decide +kernel
theorem dX12_act_54 : decode cX12_act 54 = .ok (.aload_n 0, 1) := by decide +kernel
theorem dX12_act_55 : decode cX12_act 55 = .ok (.getfield 368, 3) := by decide +kernel
theorem dX12_act_58 : decode cX12_act 58 = .ok (.bipush 60, 2) := by decide +kernel
theorem dX12_act_60 : decode cX12_act 60 = .ok (.if_icmp .ne 9, 3) := by decide +kernel
theorem dX12_act_63 : decode cX12_act 63 = .ok (.aload_n 0, 1) := by decide +kernel
theorem dX12_act_64 : decode cX12_act 64 = .ok (.iconst 4, 1) := by decide +kernel
theorem dX12_act_65 : decode cX12_act 65 = .ok (.invokevirtual 190, 3) := by decide +kernel
theorem dX12_act_68 : decode cX12_act 68 = .ok (.ireturn, 1) := by decide +kernel
theorem dX12_act_69 : decode cX12_act 69 = .ok (.aload_n 0, 1) := by decide +kernel
theorem dX12_act_70 : decode cX12_act 70 = .ok (.invokevirtual 193, 3) := by decide +kernel
theorem dX12_act_73 : decode cX12_act 73 = .ok (.iload_n 1, 1) := by decide +kernel
theorem dX12_act_74 : decode cX12_act 74 = .ok (.iconst 5, 1) := by decide +kernel
theorem dX12_act_75 : decode cX12_act 75 = .ok (.if_icmp .ne 15, 3) := by decide +kernel
theorem dX12_act_78 : decode cX12_act 78 = .ok (.aload_n 0, 1) := by decide +kernel
theorem dX12_act_79 : decode cX12_act 79 = .ok (.iconst 1, 1) := by decide +kernel
theorem dX12_act_80 : decode cX12_act 80 = .ok (.bipush 96, 2) := by decide +kernel
theorem dX12_act_82 : decode cX12_act 82 = .ok (.invokevirtual 211, 3) := by decide +kernel
theorem dX12_act_85 : decode cX12_act 85 = .ok (.ifCond .ne 22, 3) := by decide +kernel
theorem dX12_act_88 : decode cX12_act 88 = .ok (.iconst 0, 1) := by decide +kernel
theorem dX12_act_89 : decode cX12_act 89 = .ok (.ireturn, 1) := by decide +kernel
theorem dX12_act_90 : decode cX12_act 90 = .ok (.aload_n 0, 1) := by decide +kernel
theorem dX12_act_91 : decode cX12_act 91 = .ok (.iconst 0, 1) := by decide +kernel
theorem dX12_act_92 : decode cX12_act 92 = .ok (.aload_n 0, 1) := by decide +kernel
theorem dX12_act_93 : decode cX12_act 93 = .ok (.getfield 33, 3) := by decide +kernel
theorem dX12_act_96 : decode cX12_act 96 = .ok (.iconst 2, 1) := by decide +kernel
theorem dX12_act_97 : decode cX12_act 97 = .ok (.iaload, 1) := by decide +kernel
theorem dX12_act_98 : decode cX12_act 98 = .ok (.iconst (-1), 1) := by decide +kernel
theorem dX12_act_99 : decode cX12_act 99 = .ok (.invokevirtual 259, 3) := by decide +kernel
theorem dX12_act_102 : decode cX12_act 102 = .ok (.ifCond .ne 5, 3) := by decide +kernel
theorem dX12_act_105 : decode cX12_act 105 = .ok (.iconst 0, 1) := by decide +kernel
theorem dX12_act_106 : decode cX12_act 106 = .ok (.ireturn, 1) := by decide +kernel
theorem dX12_act_107 : decode cX12_act 107 = .ok (.aload_n 0, 1) := by decide +kernel
theorem dX12_act_108 : decode cX12_act 108 = .ok (.getfield 40, 3) := by decide +kernel
theorem dX12_act_111 : decode cX12_act 111 = .ok (.iconst 2, 1) := by decide +kernel
theorem dX12_act_112 : decode cX12_act 112 = .ok (.aload_n 0, 1) := by decide +kernel
theorem dX12_act_113 : decode cX12_act 113 = .ok (.getfield 368, 3) := by decide +kernel
theorem dX12_act_116 : decode cX12_act 116 = .ok (.imul, 1) := by decide +kernel
theorem dX12_act_117 : decode cX12_act 117 = .ok (.iconst 1, 1) := by decide +kernel
theorem dX12_act_118 : decode cX12_act 118 = .ok (.iadd, 1) := by decide +kernel
theorem dX12_act_119 : decode cX12_act 119 = .ok (.aload_n 0, 1) := by decide +kernel
theorem dX12_act_120 : decode cX12_act 120 = .ok (.getfield 200, 3) := by decide +kernel
theorem dX12_act_123 : decode cX12_act 123 = .ok (.iastore, 1) := by decide +kernel
theorem dX12_act_124 : decode cX12_act 124 = .ok (.iload_n 1, 1) := by decide +kernel
theorem dX12_act_125 : decode cX12_act 125 = .ok (.ifCond .ne 22, 3) := by decide +kernel
theorem dX12_act_128 : decode cX12_act 128 = .ok (.aload_n 0, 1) := by decide +kernel
theorem dX12_act_129 : decode cX12_act 129 = .ok (.invokevirtual 272, 3) := by decide +kernel
theorem dX12_act_132 : decode cX12_act 132 = .ok (.istore_n 1, 1) := by decide +kernel
theorem dX12_act_133 : decode cX12_act 133 = .ok (.iload_n 1, 1) := by decide +kernel
theorem dX12_act_134 : decode cX12_act 134 = .ok (.ifCond .ge 9, 3) := by decide +kernel
theorem dX12_act_137 : decode cX12_act 137 = .ok (.aload_n 0, 1) := by decide +kernel
theorem dX12_act_138 : decode cX12_act 138 = .ok (.iconst 1, 1) := by decide +kernel
theorem dX12_act_139 : decode cX12_act 139 = .ok (.invokevirtual 190, 3) := by decide +kernel
theorem dX12_act_142 : decode cX12_act 142 = .ok (.ireturn, 1) := by decide +kernel
theorem dX12_act_143 : decode cX12_act 143 = .ok (.aload_n 0, 1) := by decide +kernel
theorem dX12_act_144 : decode cX12_act 144 = .ok (.invokevirtual 193, 3) := by decide +kernel
theorem dX12_act_147 : decode cX12_act 147 = .ok (.aload_n 0, 1) := by decide +kernel
theorem dX12_act_148 : decode cX12_act 148 = .ok (.getfield 40, 3) := by decide +kernel
theorem dX12_act_151 : decode cX12_act 151 = .ok (.iconst 2, 1) := by decide +kernel
theorem dX12_act_152 : decode cX12_act 152 = .ok (.aload_n 0, 1) := by decide +kernel
theorem dX12_act_153 : decode cX12_act 153 = .ok (.getfield 368, 3) := by decide +kernel
theorem dX12_act_156 : decode cX12_act 156 = .ok (.imul, 1) := by decide +kernel
theorem dX12_act_157 : decode cX12_act 157 = .ok (.iload_n 1, 1) := by decide +kernel
theorem dX12_act_158 : decode cX12_act 158 = .ok (.iastore, 1) := by decide +kernel
theorem dX12_act_159 : decode cX12_act 159 = .ok (.iconst 1, 1) := by decide +kernel
theorem dX12_act_160 : decode cX12_act 160 = .ok (.ireturn, 1) := by decide +kernel
def wb_X12_act_147  (h : AH) (al0 : Nat) (xl1 : Int32)  (post : AH → Int32 → Prop) : Prop := (ob h al0 11) ∧ (∃ rv1, aP h al0 8 = some rv1 ∧ ((ob h al0 11) ∧ ((ob h rv1 13) ∧ ((vp_in ((2 : Int32) * (aI h al0 27)) (aL h rv1)) ∧ (∀ hv2 : AH, hv2 = hI h rv1 ((2 : Int32) * (aI h al0 27)).toNatClampNeg xl1 → (((1 : Int32) = 0 ∨ (1 : Int32) = 1) ∧ post hv2 1))))))
set_option maxRecDepth 100000 in
theorem tb_X12_act_147 {G : GG} {p : Program} {l : Launch} {e : Env} {R : Room} {s : State} {m : MethodId} {args : Array Value} {below : List Frame} {meth : Method} {c : Code} {n0 s0 : Nat} {post : AH → Int32 → Prop} (C : Cx G p R s m args meth c 2 cX12_act RX12 n0 s0 3 66) (hr : meth.sig.returnType = (some .boolean))   {h : AH} {al0 : Nat} {xl1 : Int32}  (hw : wb_X12_act_147  h al0 xl1 post) : AW G p l e R s m args below meth c 2 (QM G (pI post) args s below n0 s0) 147 [(0, .ref (G.1 + al0)), (1, .int xl1)] [] h := by
  unfold wb_X12_act_147 at hw
  refine r_aload_n C dX12_act_147 0 rfl ?_
  have hob := hw.1
  obtain ⟨rv1, hp, hw⟩ := hw.2
  refine r_getP C fl_RX12_40_11 hob hp (fun _ _ _ => rfl) dX12_act_148 ?_
  refine r_iconst (v := 2) C dX12_act_151 (by decide) ?_
  refine r_aload_n C dX12_act_152 0 rfl ?_
  refine r_getI C fl_RX12_368_11 hw.1 (fun _ _ _ => rfl) dX12_act_153 ?_
  replace hw := hw.2
  refine r_imul C dX12_act_156 ?_
  refine r_iload_n C dX12_act_157 1 rfl ?_
  refine r_iastore C hw.1 hw.2.1 dX12_act_158 ?_
  replace hw := hw.2.2
  refine r_toph fun hv2 ehv2 => ?_
  replace hw := hw hv2 ehv2
  refine r_iconst (v := 1) C dX12_act_159 (by decide) ?_
  exact r_zret C hr dX12_act_160 hw.1 hw.2
def wb_X12_act_107  (h : AH) (al0 : Nat) (xl1 : Int32)  (post : AH → Int32 → Prop) : Prop := (ob h al0 11) ∧ (∃ rv1, aP h al0 8 = some rv1 ∧ ((ob h al0 11) ∧ ((ob h al0 11) ∧ ((ob h rv1 13) ∧ ((vp_in (((2 : Int32) * (aI h al0 27)) + (1 : Int32)) (aL h rv1)) ∧ (∀ hv2 : AH, hv2 = hI h rv1 (((2 : Int32) * (aI h al0 27)) + (1 : Int32)).toNatClampNeg (aI h al0 18) → ((¬ xl1 = 0 → (wb_X12_act_147  hv2 al0 xl1 post)) ∧ (xl1 = 0 → ((ob hv2 al0 11) ∧ wp_X12_side hv2 al0  (fun hv3 iv4 => (0 ≤ iv4 → ((ob hv3 al0 11) ∧ wp_X12_next hv3 al0  (fun hv5  => wb_X12_act_147  hv5 al0 iv4 post))) ∧ (¬ 0 ≤ iv4 → ((ob hv3 al0 11) ∧ wp_X12_bad hv3 al0 1 (fun hv6 iv7 => (iv7 = 0 ∨ iv7 = 1) ∧ post hv6 iv7)))))))))))))
set_option maxRecDepth 100000 in
theorem tb_X12_act_107 {G : GG} {p : Program} {l : Launch} {e : Env} {R : Room} {s : State} {m : MethodId} {args : Array Value} {below : List Frame} {meth : Method} {c : Code} {n0 s0 : Nat} {post : AH → Int32 → Prop} (C : Cx G p R s m args meth c 2 cX12_act RX12 n0 s0 3 66) (hr : meth.sig.returnType = (some .boolean))   {h : AH} {al0 : Nat} {xl1 : Int32}  (hw : wb_X12_act_107  h al0 xl1 post) : AW G p l e R s m args below meth c 2 (QM G (pI post) args s below n0 s0) 107 [(0, .ref (G.1 + al0)), (1, .int xl1)] [] h := by
  unfold wb_X12_act_107 at hw
  refine r_aload_n C dX12_act_107 0 rfl ?_
  have hob := hw.1
  obtain ⟨rv1, hp, hw⟩ := hw.2
  refine r_getP C fl_RX12_40_11 hob hp (fun _ _ _ => rfl) dX12_act_108 ?_
  refine r_iconst (v := 2) C dX12_act_111 (by decide) ?_
  refine r_aload_n C dX12_act_112 0 rfl ?_
  refine r_getI C fl_RX12_368_11 hw.1 (fun _ _ _ => rfl) dX12_act_113 ?_
  replace hw := hw.2
  refine r_imul C dX12_act_116 ?_
  refine r_iconst (v := 1) C dX12_act_117 (by decide) ?_
  refine r_iadd C dX12_act_118 ?_
  refine r_aload_n C dX12_act_119 0 rfl ?_
  refine r_getI C fl_RX12_200_11 hw.1 (fun _ _ _ => rfl) dX12_act_120 ?_
  replace hw := hw.2
  refine r_iastore C hw.1 hw.2.1 dX12_act_123 ?_
  replace hw := hw.2.2
  refine r_toph fun hv2 ehv2 => ?_
  replace hw := hw hv2 ehv2
  refine r_iload_n C dX12_act_124 1 rfl ?_
  refine r_if_ne C dX12_act_125 147 (by decide) (fun hc => ?_) (fun hc => ?_)
  · replace hw := hw.1 hc
    refine r_sub [0, 1] rfl ?_
    exact tb_X12_act_147 C hr  hw
  · replace hw := hw.2 hc
    refine r_aload_n C dX12_act_128 0 rfl ?_
    have hob := hw.1
    replace hw := hw.2
    refine r_callV C (As := []) (rest := []) (c_X12_side G hv2 al0  _ hw) yl_X12_side (gm8 (List.mem_of_getElem? (i := 14) rfl) rfl) (gm8 (List.mem_of_getElem? (i := 16) rfl) rfl) (ci := 11) rfl (by decide) (gsel (List.mem_of_getElem? (i := 63) rfl)) hob (by decide) rfl (Nat.le_of_ble_eq_true rfl) dX12_act_129 rfl (kI fun hv3 iv4 hw => ?_)
    refine r_istore_n C dX12_act_132 [(1, .int iv4), (0, .ref (G.1 + al0))] (by decide) rfl ?_
    refine r_iload_n C dX12_act_133 0 rfl ?_
    refine r_if_ge C dX12_act_134 143 (by decide) (fun hc => ?_) (fun hc => ?_)
    · replace hw := hw.1 hc
      refine r_aload_n C dX12_act_143 1 rfl ?_
      have hob := hw.1
      replace hw := hw.2
      refine r_callV C (As := []) (rest := []) (c_X12_next G hv3 al0  _ hw) yl_X12_next (gm7 (List.mem_of_getElem? (i := 151) rfl) rfl) (gm7 (List.mem_of_getElem? (i := 153) rfl) rfl) (ci := 11) rfl (by decide) (gsel (List.mem_of_getElem? (i := 41) rfl)) hob (by decide) rfl (Nat.le_of_ble_eq_true rfl) dX12_act_144 rfl (kV fun hv5  hw => ?_)
      refine r_sub [1, 0] rfl ?_
      exact tb_X12_act_147 C hr  hw
    · replace hw := hw.2 hc
      refine r_aload_n C dX12_act_137 1 rfl ?_
      refine r_iconst (v := 1) C dX12_act_138 (by decide) ?_
      have hob := hw.1
      replace hw := hw.2
      refine r_callV C (As := [.int 1]) (rest := []) (c_X12_bad G hv3 al0 1 _ hw) yl_X12_bad (gm7 (List.mem_of_getElem? (i := 177) rfl) rfl) (gm7 (List.mem_of_getElem? (i := 179) rfl) rfl) (ci := 11) rfl (by decide) (gsel (List.mem_of_getElem? (i := 46) rfl)) hob (by decide) rfl (Nat.le_of_ble_eq_true rfl) dX12_act_139 rfl (kI fun hv6 iv7 hw => ?_)
      exact r_zret C hr dX12_act_142 hw.1 hw.2
def wb_X12_act_43  (h : AH) (al0 : Nat) (xs0 : Int32) (post : AH → Int32 → Prop) : Prop := (0 ≤ xs0 → ((ob h al0 11) ∧ ((¬ (aI h al0 27) = 60 → ((ob h al0 11) ∧ wp_X12_next h al0  (fun hv1  => (¬ xs0 = 5 → ((ob hv1 al0 11) ∧ (∃ rv2, aP hv1 al0 6 = some rv2 ∧ ((ob hv1 rv2 13) ∧ ((vp_in 2 (aL hv1 rv2)) ∧ ((ob hv1 al0 11) ∧ wp_X12_takesRaft hv1 al0 0 (aI hv1 rv2 (2 : Int32).toNatClampNeg) (-1) (fun hv3 iv4 => (¬ iv4 = 0 → (wb_X12_act_107  hv3 al0 xs0 post)) ∧ (iv4 = 0 → (((0 : Int32) = 0 ∨ (0 : Int32) = 1) ∧ post hv3 0))))))))) ∧ (xs0 = 5 → ((ob hv1 al0 11) ∧ wp_X12_takes hv1 al0 1 96 (fun hv5 iv6 => (¬ iv6 = 0 → (wb_X12_act_107  hv5 al0 xs0 post)) ∧ (iv6 = 0 → (((0 : Int32) = 0 ∨ (0 : Int32) = 1) ∧ post hv5 0)))))))) ∧ ((aI h al0 27) = 60 → ((ob h al0 11) ∧ wp_X12_bad h al0 4 (fun hv7 iv8 => (iv8 = 0 ∨ iv8 = 1) ∧ post hv7 iv8)))))) ∧ (¬ 0 ≤ xs0 → ((ob h al0 11) ∧ wp_X12_bad h al0 1 (fun hv9 iv10 => (iv10 = 0 ∨ iv10 = 1) ∧ post hv9 iv10)))
set_option maxRecDepth 100000 in
theorem tb_X12_act_43 {G : GG} {p : Program} {l : Launch} {e : Env} {R : Room} {s : State} {m : MethodId} {args : Array Value} {below : List Frame} {meth : Method} {c : Code} {n0 s0 : Nat} {post : AH → Int32 → Prop} (C : Cx G p R s m args meth c 2 cX12_act RX12 n0 s0 3 66) (hr : meth.sig.returnType = (some .boolean))   {h : AH} {al0 : Nat} {xs0 : Int32} (hw : wb_X12_act_43  h al0 xs0 post) : AW G p l e R s m args below meth c 2 (QM G (pI post) args s below n0 s0) 43 [(0, .ref (G.1 + al0))] [.int xs0] h := by
  unfold wb_X12_act_43 at hw
  refine r_istore_n C dX12_act_43 [(1, .int xs0), (0, .ref (G.1 + al0))] (by decide) rfl ?_
  refine r_iload_n C dX12_act_44 0 rfl ?_
  refine r_if_ge C dX12_act_45 54 (by decide) (fun hc => ?_) (fun hc => ?_)
  · replace hw := hw.1 hc
    refine r_aload_n C dX12_act_54 1 rfl ?_
    refine r_getI C fl_RX12_368_11 hw.1 (fun _ _ _ => rfl) dX12_act_55 ?_
    replace hw := hw.2
    refine r_bipush (v := 60) C dX12_act_58 (by decide) ?_
    refine r_icmp_ne C dX12_act_60 69 (by decide) (fun hc => ?_) (fun hc => ?_)
    · replace hw := hw.1 hc
      refine r_aload_n C dX12_act_69 1 rfl ?_
      have hob := hw.1
      replace hw := hw.2
      refine r_callV C (As := []) (rest := []) (c_X12_next G h al0  _ hw) yl_X12_next (gm7 (List.mem_of_getElem? (i := 151) rfl) rfl) (gm7 (List.mem_of_getElem? (i := 153) rfl) rfl) (ci := 11) rfl (by decide) (gsel (List.mem_of_getElem? (i := 41) rfl)) hob (by decide) rfl (Nat.le_of_ble_eq_true rfl) dX12_act_70 rfl (kV fun hv1  hw => ?_)
      refine r_iload_n C dX12_act_73 0 rfl ?_
      refine r_iconst (v := 5) C dX12_act_74 (by decide) ?_
      refine r_icmp_ne C dX12_act_75 90 (by decide) (fun hc => ?_) (fun hc => ?_)
      · replace hw := hw.1 hc
        refine r_aload_n C dX12_act_90 1 rfl ?_
        refine r_iconst (v := 0) C dX12_act_91 (by decide) ?_
        refine r_aload_n C dX12_act_92 1 rfl ?_
        have hob := hw.1
        obtain ⟨rv2, hp, hw⟩ := hw.2
        refine r_getP C fl_RX12_33_11 hob hp (fun _ _ _ => rfl) dX12_act_93 ?_
        refine r_iconst (v := 2) C dX12_act_96 (by decide) ?_
        refine r_iaload C hw.1 hw.2.1 dX12_act_97 ?_
        replace hw := hw.2.2
        refine r_iconst (v := (-1)) C dX12_act_98 (by decide) ?_
        have hob := hw.1
        replace hw := hw.2
        refine r_callV C (As := [.int 0, .int (aI hv1 rv2 (2 : Int32).toNatClampNeg), .int (-1)]) (rest := []) (c_X12_takesRaft G hv1 al0 0 (aI hv1 rv2 (2 : Int32).toNatClampNeg) (-1) _ hw) yl_X12_takesRaft (gm7 (List.mem_of_getElem? (i := 219) rfl) rfl) (gm7 (List.mem_of_getElem? (i := 221) rfl) rfl) (ci := 11) rfl (by decide) (gsel (List.mem_of_getElem? (i := 55) rfl)) hob (by decide) rfl (Nat.le_of_ble_eq_true rfl) dX12_act_99 rfl (kI fun hv3 iv4 hw => ?_)
        refine r_if_ne C dX12_act_102 107 (by decide) (fun hc => ?_) (fun hc => ?_)
        · replace hw := hw.1 hc
          refine r_sub [1, 0] rfl ?_
          exact tb_X12_act_107 C hr  hw
        · replace hw := hw.2 hc
          refine r_iconst (v := 0) C dX12_act_105 (by decide) ?_
          exact r_zret C hr dX12_act_106 hw.1 hw.2
      · replace hw := hw.2 hc
        refine r_aload_n C dX12_act_78 1 rfl ?_
        refine r_iconst (v := 1) C dX12_act_79 (by decide) ?_
        refine r_bipush (v := 96) C dX12_act_80 (by decide) ?_
        have hob := hw.1
        replace hw := hw.2
        refine r_callV C (As := [.int 1, .int 96]) (rest := []) (c_X12_takes G hv1 al0 1 96 _ hw) yl_X12_takes (gm7 (List.mem_of_getElem? (i := 195) rfl) rfl) (gm7 (List.mem_of_getElem? (i := 197) rfl) rfl) (ci := 11) rfl (by decide) (gsel (List.mem_of_getElem? (i := 49) rfl)) hob (by decide) rfl (Nat.le_of_ble_eq_true rfl) dX12_act_82 rfl (kI fun hv5 iv6 hw => ?_)
        refine r_if_ne C dX12_act_85 107 (by decide) (fun hc => ?_) (fun hc => ?_)
        · replace hw := hw.1 hc
          refine r_sub [1, 0] rfl ?_
          exact tb_X12_act_107 C hr  hw
        · replace hw := hw.2 hc
          refine r_iconst (v := 0) C dX12_act_88 (by decide) ?_
          exact r_zret C hr dX12_act_89 hw.1 hw.2
    · replace hw := hw.2 hc
      refine r_aload_n C dX12_act_63 1 rfl ?_
      refine r_iconst (v := 4) C dX12_act_64 (by decide) ?_
      have hob := hw.1
      replace hw := hw.2
      refine r_callV C (As := [.int 4]) (rest := []) (c_X12_bad G h al0 4 _ hw) yl_X12_bad (gm7 (List.mem_of_getElem? (i := 177) rfl) rfl) (gm7 (List.mem_of_getElem? (i := 179) rfl) rfl) (ci := 11) rfl (by decide) (gsel (List.mem_of_getElem? (i := 46) rfl)) hob (by decide) rfl (Nat.le_of_ble_eq_true rfl) dX12_act_65 rfl (kI fun hv7 iv8 hw => ?_)
      exact r_zret C hr dX12_act_68 hw.1 hw.2
  · replace hw := hw.2 hc
    refine r_aload_n C dX12_act_48 1 rfl ?_
    refine r_iconst (v := 1) C dX12_act_49 (by decide) ?_
    have hob := hw.1
    replace hw := hw.2
    refine r_callV C (As := [.int 1]) (rest := []) (c_X12_bad G h al0 1 _ hw) yl_X12_bad (gm7 (List.mem_of_getElem? (i := 177) rfl) rfl) (gm7 (List.mem_of_getElem? (i := 179) rfl) rfl) (ci := 11) rfl (by decide) (gsel (List.mem_of_getElem? (i := 46) rfl)) hob (by decide) rfl (Nat.le_of_ble_eq_true rfl) dX12_act_50 rfl (kI fun hv9 iv10 hw => ?_)
    exact r_zret C hr dX12_act_53 hw.1 hw.2
def wp_X12_act (h : AH) (a0 : Nat) (post : AH → Int32 → Prop) : Prop := (ob h a0 11) ∧ wp_X12_isWord h a0 495740085349 (fun hv1 iv2 => (iv2 = 0 → ((ob hv1 a0 11) ∧ wp_X12_isWord hv1 a0 1953854062 (fun hv3 iv4 => (iv4 = 0 → ((ob hv3 a0 11) ∧ wp_X12_isWord hv3 a0 2002872692 (fun hv5 iv6 => (iv6 = 0 → (wb_X12_act_43  hv5 a0 (-1) post)) ∧ (¬ iv6 = 0 → (wb_X12_act_43  hv5 a0 5 post))))) ∧ (¬ iv4 = 0 → (wb_X12_act_43  hv3 a0 4 post))))) ∧ (¬ iv2 = 0 → (wb_X12_act_43  hv1 a0 0 post)))
set_option maxRecDepth 100000 in
theorem c_X12_act (G : GG) (h : AH) (a0 : Nat) (post : AH → Int32 → Prop) (hw : wp_X12_act h a0 post) : MC G yX12_act cX12_act 2 (some .boolean) 3 66 h [.ref (G.1 + a0)] (pI post) := by
  refine MC.of (lv := [(0, .ref (G.1 + a0))]) (by decide) (Nat.le_of_ble_eq_true rfl) rfl fun p l e R s m args below meth c C hr hnm => ?_
  unfold wp_X12_act at hw
  refine r_aload_n C dX12_act_0 0 rfl ?_
  refine r_ldc2 (v := 495740085349) C (gm6 (List.mem_of_getElem? (i := 215) rfl) rfl) dX12_act_1 ?_
  have hob := hw.1
  replace hw := hw.2
  refine r_callV C (As := [.long 495740085349]) (rest := []) (c_X12_isWord G h a0 495740085349 _ hw) yl_X12_isWord (gm7 (List.mem_of_getElem? (i := 169) rfl) rfl) (gm7 (List.mem_of_getElem? (i := 171) rfl) rfl) (ci := 11) rfl (by decide) (gsel (List.mem_of_getElem? (i := 44) rfl)) hob (by decide) rfl (Nat.le_of_ble_eq_true rfl) dX12_act_4 rfl (kI fun hv1 iv2 hw => ?_)
  refine r_if_eq C dX12_act_7 14 (by decide) (fun hc => ?_) (fun hc => ?_)
  · replace hw := hw.1 hc
    refine r_aload_n C dX12_act_14 0 rfl ?_
    refine r_ldc2 (v := 1953854062) C (gm6 (List.mem_of_getElem? (i := 216) rfl) rfl) dX12_act_15 ?_
    have hob := hw.1
    replace hw := hw.2
    refine r_callV C (As := [.long 1953854062]) (rest := []) (c_X12_isWord G hv1 a0 1953854062 _ hw) yl_X12_isWord (gm7 (List.mem_of_getElem? (i := 169) rfl) rfl) (gm7 (List.mem_of_getElem? (i := 171) rfl) rfl) (ci := 11) rfl (by decide) (gsel (List.mem_of_getElem? (i := 44) rfl)) hob (by decide) rfl (Nat.le_of_ble_eq_true rfl) dX12_act_18 rfl (kI fun hv3 iv4 hw => ?_)
    refine r_if_eq C dX12_act_21 28 (by decide) (fun hc => ?_) (fun hc => ?_)
    · replace hw := hw.1 hc
      refine r_aload_n C dX12_act_28 0 rfl ?_
      refine r_ldc2 (v := 2002872692) C (gm6 (List.mem_of_getElem? (i := 217) rfl) rfl) dX12_act_29 ?_
      have hob := hw.1
      replace hw := hw.2
      refine r_callV C (As := [.long 2002872692]) (rest := []) (c_X12_isWord G hv3 a0 2002872692 _ hw) yl_X12_isWord (gm7 (List.mem_of_getElem? (i := 169) rfl) rfl) (gm7 (List.mem_of_getElem? (i := 171) rfl) rfl) (ci := 11) rfl (by decide) (gsel (List.mem_of_getElem? (i := 44) rfl)) hob (by decide) rfl (Nat.le_of_ble_eq_true rfl) dX12_act_32 rfl (kI fun hv5 iv6 hw => ?_)
      refine r_if_eq C dX12_act_35 42 (by decide) (fun hc => ?_) (fun hc => ?_)
      · replace hw := hw.1 hc
        refine r_iconst (v := (-1)) C dX12_act_42 (by decide) ?_
        refine r_sub [0] rfl ?_
        exact tb_X12_act_43 C hr  hw
      · replace hw := hw.2 hc
        refine r_iconst (v := 5) C dX12_act_38 (by decide) ?_
        refine r_goto C dX12_act_39 43 (by decide) ?_
        refine r_sub [0] rfl ?_
        exact tb_X12_act_43 C hr  hw
    · replace hw := hw.2 hc
      refine r_iconst (v := 4) C dX12_act_24 (by decide) ?_
      refine r_goto C dX12_act_25 43 (by decide) ?_
      refine r_sub [0] rfl ?_
      exact tb_X12_act_43 C hr  hw
  · replace hw := hw.2 hc
    refine r_iconst (v := 0) C dX12_act_10 (by decide) ?_
    refine r_goto C dX12_act_11 43 (by decide) ?_
    refine r_sub [0] rfl ?_
    exact tb_X12_act_43 C hr  hw
theorem dX12_plan_0 : decode cX12_plan 0 = .ok (.aload_n 0, 1) := by decide +kernel
theorem dX12_plan_1 : decode cX12_plan 1 = .ok (.iconst 0, 1) := by decide +kernel
theorem dX12_plan_2 : decode cX12_plan 2 = .ok (.putfield 1, 3) := by decide +kernel
theorem dX12_plan_5 : decode cX12_plan 5 = .ok (.aload_n 0, 1) := by decide +kernel
theorem dX12_plan_6 : decode cX12_plan 6 = .ok (.sipush 700, 3) := by decide +kernel
theorem dX12_plan_9 : decode cX12_plan 9 = .ok (.invokevirtual 275, 3) := by decide +kernel
theorem dX12_plan_12 : decode cX12_plan 12 = .ok (.aload_n 0, 1) := by decide +kernel
theorem dX12_plan_13 : decode cX12_plan 13 = .ok (.iconst 0, 1) := by decide +kernel
theorem dX12_plan_14 : decode cX12_plan 14 = .ok (.putfield 181, 3) := by decide +kernel
theorem dX12_plan_17 : decode cX12_plan 17 = .ok (.aload_n 0, 1) := by decide +kernel
theorem dX12_plan_18 : decode cX12_plan 18 = .ok (.iconst 0, 1) := by decide +kernel
theorem dX12_plan_19 : decode cX12_plan 19 = .ok (.putfield 368, 3) := by decide +kernel
theorem dX12_plan_22 : decode cX12_plan 22 = .ok (.aload_n 0, 1) := by decide +kernel
theorem dX12_plan_23 : decode cX12_plan 23 = .ok (.invokevirtual 193, 3) := by decide +kernel
theorem dX12_plan_26 : decode cX12_plan 26 = .ok (.aload_n 0, 1) := by decide +kernel
theorem dX12_plan_27 : decode cX12_plan 27 = .ok (.getfield 164, 3) := by decide +kernel
theorem dX12_plan_30 : decode cX12_plan 30 = .ok (.ifCond .eq 39, 3) := by decide +kernel
theorem dX12_plan_33 : decode cX12_plan 33 = .ok (.aload_n 0, 1) := by decide +kernel
theorem dX12_plan_34 : decode cX12_plan 34 = .ok (.invokevirtual 371, 3) := by decide +kernel
theorem dX12_plan_37 : decode cX12_plan 37 = .ok (.ifCond .eq 12, 3) := by decide +kernel
theorem dX12_plan_40 : decode cX12_plan 40 = .ok (.aload_n 0, 1) := by decide +kernel
theorem dX12_plan_41 : decode cX12_plan 41 = .ok (.bipush 59, 2) := by decide +kernel
theorem dX12_plan_43 : decode cX12_plan 43 = .ok (.invokevirtual 284, 3) := by decide +kernel
theorem dX12_plan_46 : decode cX12_plan 46 = .ok (.ifCond .ne 10, 3) := by decide +kernel
theorem dX12_plan_49 : decode cX12_plan 49 = .ok (.iconst (-1), 1) := by decide +kernel
theorem dX12_plan_50 : decode cX12_plan 50 = .ok (.aload_n 0, 1) := by decide +kernel
theorem dX12_plan_51 : decode cX12_plan 51 = .ok (.getfield 184, 3) := by decide +kernel
theorem dX12_plan_54 : decode cX12_plan 54 = .ok (.isub, 1) := by decide +kernel
theorem dX12_plan_55 : decode cX12_plan 55 = .ok (.ireturn, 1) := by decide +kernel
theorem dX12_plan_56 : decode cX12_plan 56 = .ok (.aload_n 0, 1) := by decide +kernel
theorem dX12_plan_57 : decode cX12_plan 57 = .ok (.dup, 1) := by decide +kernel
theorem dX12_plan_58 : decode cX12_plan 58 = .ok (.getfield 368, 3) := by decide +kernel
theorem dX12_plan_61 : decode cX12_plan 61 = .ok (.iconst 1, 1) := by decide +kernel
theorem dX12_plan_62 : decode cX12_plan 62 = .ok (.iadd, 1) := by decide +kernel
theorem dX12_plan_63 : decode cX12_plan 63 = .ok (.putfield 368, 3) := by decide +kernel
theorem dX12_plan_66 : decode cX12_plan 66 = .ok (.goto (-40), 3) := by decide +kernel
theorem dX12_plan_69 : decode cX12_plan 69 = .ok (.aload_n 0, 1) := by decide +kernel
theorem dX12_plan_70 : decode cX12_plan 70 = .ok (.getfield 33, 3) := by decide +kernel
theorem dX12_plan_73 : decode cX12_plan 73 = .ok (.sipush 249, 3) := by decide +kernel
theorem dX12_plan_76 : decode cX12_plan 76 = .ok (.aload_n 0, 1) := by decide +kernel
theorem dX12_plan_77 : decode cX12_plan 77 = .ok (.getfield 368, 3) := by decide +kernel
theorem dX12_plan_80 : decode cX12_plan 80 = .ok (.iastore, 1) := by decide +kernel
theorem dX12_plan_81 : decode cX12_plan 81 = .ok (.iconst 0, 1) := by decide +kernel
theorem dX12_plan_82 : decode cX12_plan 82 = .ok (.istore_n 1, 1) := by decide +kernel
theorem dX12_plan_83 : decode cX12_plan 83 = .ok (.iload_n 1, 1) := by decide +kernel
theorem dX12_plan_84 : decode cX12_plan 84 = .ok (.iconst 2, 1) := by decide +kernel
theorem dX12_plan_85 : decode cX12_plan 85 = .ok (.aload_n 0, 1) := by decide +kernel
theorem dX12_plan_86 : decode cX12_plan 86 = .ok (.getfield 368, 3) := by decide +kernel
theorem dX12_plan_89 : decode cX12_plan 89 = .ok (.imul, 1) := by decide +kernel
theorem dX12_plan_90 : decode cX12_plan 90 = .ok (.if_icmp .ge 25, 3) := by decide +kernel
theorem dX12_plan_93 : decode cX12_plan 93 = .ok (.aload_n 0, 1) := by decide +kernel
theorem dX12_plan_94 : decode cX12_plan 94 = .ok (.getfield 33, 3) := by decide +kernel
theorem dX12_plan_97 : decode cX12_plan 97 = .ok (.sipush 250, 3) := by decide +kernel
theorem dX12_plan_100 : decode cX12_plan 100 = .ok (.iload_n 1, 1) := by decide +kernel
theorem dX12_plan_101 : decode cX12_plan 101 = .ok (.iadd, 1) := by decide +kernel
theorem dX12_plan_102 : decode cX12_plan 102 = .ok (.aload_n 0, 1) := by decide +kernel
theorem dX12_plan_103 : decode cX12_plan 103 = .ok (.getfield 40, 3) := by decide +kernel
theorem dX12_plan_106 : decode cX12_plan 106 = .ok (.iload_n 1, 1) := by decide +kernel
theorem dX12_plan_107 : decode cX12_plan 107 = .ok (.iaload, 1) := by decide +kernel
theorem dX12_plan_108 : decode cX12_plan 108 = .ok (.iastore, 1) := by decide +kernel
theorem dX12_plan_109 : decode cX12_plan 109 = .ok (.iinc 1 1, 3) := by decide +kernel
theorem dX12_plan_112 : decode cX12_plan 112 = .ok (.goto (-29), 3) := by decide +kernel
theorem dX12_plan_115 : decode cX12_plan 115 = .ok (.aload_n 0, 1) := by decide +kernel
theorem dX12_plan_116 : decode cX12_plan 116 = .ok (.getfield 368, 3) := by decide +kernel
theorem dX12_plan_119 : decode cX12_plan 119 = .ok (.ireturn, 1) := by decide +kernel
def wb_X12_plan_83 (K83 : AH → Nat → Int32 → Prop) (h : AH) (al0 : Nat) (xl1 : Int32)  (post : AH → Int32 → Prop) : Prop := (ob h al0 11) ∧ ((((2 : Int32) * (aI h al0 27)) ≤ xl1 → ((ob h al0 11) ∧ (post h (aI h al0 27)))) ∧ (¬ ((2 : Int32) * (aI h al0 27)) ≤ xl1 → ((ob h al0 11) ∧ (∃ rv1, aP h al0 6 = some rv1 ∧ ((ob h al0 11) ∧ (∃ rv2, aP h al0 8 = some rv2 ∧ ((ob h rv2 13) ∧ ((vp_in xl1 (aL h rv2)) ∧ ((ob h rv1 13) ∧ ((vp_in ((250 : Int32) + xl1) (aL h rv1)) ∧ (∀ hv3 : AH, hv3 = hI h rv1 ((250 : Int32) + xl1).toNatClampNeg (aI h rv2 xl1.toNatClampNeg) → (∀ iv4 : Int32, iv4 = xl1 + 1 → (K83 hv3 al0 iv4)))))))))))))
set_option maxRecDepth 100000 in
theorem tb_X12_plan_83 {G : GG} {p : Program} {l : Launch} {e : Env} {R : Room} {s : State} {m : MethodId} {args : Array Value} {below : List Frame} {meth : Method} {c : Code} {n0 s0 : Nat} {post : AH → Int32 → Prop} (C : Cx G p R s m args meth c 2 cX12_plan RX12 n0 s0 4 87) (hr : meth.sig.returnType = (some .int)) {K83 : AH → Nat → Int32 → Prop} (hK83 : ∀ (h : AH) (al0 : Nat) (xl1 : Int32), K83 h al0 xl1 → AW G p l e R s m args below meth c 2 (QM G (pI post) args s below n0 s0) 83 [(0, .ref (G.1 + al0)), (1, .int xl1)] [] h) {h : AH} {al0 : Nat} {xl1 : Int32}  (hw : wb_X12_plan_83 K83 h al0 xl1 post) : AW G p l e R s m args below meth c 2 (QM G (pI post) args s below n0 s0) 83 [(0, .ref (G.1 + al0)), (1, .int xl1)] [] h := by
  unfold wb_X12_plan_83 at hw
  refine r_iload_n C dX12_plan_83 1 rfl ?_
  refine r_iconst (v := 2) C dX12_plan_84 (by decide) ?_
  refine r_aload_n C dX12_plan_85 0 rfl ?_
  refine r_getI C fl_RX12_368_11 hw.1 (fun _ _ _ => rfl) dX12_plan_86 ?_
  replace hw := hw.2
  refine r_imul C dX12_plan_89 ?_
  refine r_icmp_ge C dX12_plan_90 115 (by decide) (fun hc => ?_) (fun hc => ?_)
  · replace hw := hw.1 hc
    refine r_aload_n C dX12_plan_115 0 rfl ?_
    refine r_getI C fl_RX12_368_11 hw.1 (fun _ _ _ => rfl) dX12_plan_116 ?_
    replace hw := hw.2
    exact r_iret C hr dX12_plan_119 hw
  · replace hw := hw.2 hc
    refine r_aload_n C dX12_plan_93 0 rfl ?_
    have hob := hw.1
    obtain ⟨rv1, hp, hw⟩ := hw.2
    refine r_getP C fl_RX12_33_11 hob hp (fun _ _ _ => rfl) dX12_plan_94 ?_
    refine r_sipush (v := 250) C dX12_plan_97 (by decide) ?_
    refine r_iload_n C dX12_plan_100 1 rfl ?_
    refine r_iadd C dX12_plan_101 ?_
    refine r_aload_n C dX12_plan_102 0 rfl ?_
    have hob := hw.1
    obtain ⟨rv2, hp, hw⟩ := hw.2
    refine r_getP C fl_RX12_40_11 hob hp (fun _ _ _ => rfl) dX12_plan_103 ?_
    refine r_iload_n C dX12_plan_106 1 rfl ?_
    refine r_iaload C hw.1 hw.2.1 dX12_plan_107 ?_
    replace hw := hw.2.2
    refine r_iastore C hw.1 hw.2.1 dX12_plan_108 ?_
    replace hw := hw.2.2
    refine r_toph fun hv3 ehv3 => ?_
    replace hw := hw hv3 ehv3
    obtain ⟨iv4, eiv4⟩ : ∃ q : Int32, q = xl1 + 1 := ⟨_, rfl⟩
    replace hw := hw iv4 eiv4
    refine r_iinc C dX12_plan_109 1 rfl (by rw [eiv4]; rfl) [(1, .int iv4), (0, .ref (G.1 + al0))] (by decide) rfl ?_
    refine r_goto C dX12_plan_112 83 (by decide) ?_
    refine r_sub [1, 0] rfl ?_
    exact hK83 _ _ _ hw
def wl_X12_plan_83  (post : AH → Int32 → Prop) : Nat → AH → Nat → Int32 → Prop
  | 0 => fun _ _ _ => False
  | n + 1 => fun h al0 xl1 => wb_X12_plan_83  (wl_X12_plan_83  post n) h al0 xl1 post
theorem tl_X12_plan_83 {G : GG} {p : Program} {l : Launch} {e : Env} {R : Room} {s : State} {m : MethodId} {args : Array Value} {below : List Frame} {meth : Method} {c : Code} {n0 s0 : Nat} {post : AH → Int32 → Prop} (C : Cx G p R s m args meth c 2 cX12_plan RX12 n0 s0 4 87) (hr : meth.sig.returnType = (some .int))   : ∀ (n : Nat) (h : AH) (al0 : Nat) (xl1 : Int32), wl_X12_plan_83  post n h al0 xl1 → AW G p l e R s m args below meth c 2 (QM G (pI post) args s below n0 s0) 83 [(0, .ref (G.1 + al0)), (1, .int xl1)] [] h := by
  intro n
  induction n with
  | zero => intro h al0 xl1 hw; exact hw.elim
  | succ n ih => intro h al0 xl1 hw; exact tb_X12_plan_83 C hr  ih hw
def wb_X12_plan_49  (h : AH) (al0 : Nat)  (post : AH → Int32 → Prop) : Prop := (ob h al0 11) ∧ (post h ((-1 : Int32) - (aI h al0 16)))
set_option maxRecDepth 100000 in
theorem tb_X12_plan_49 {G : GG} {p : Program} {l : Launch} {e : Env} {R : Room} {s : State} {m : MethodId} {args : Array Value} {below : List Frame} {meth : Method} {c : Code} {n0 s0 : Nat} {post : AH → Int32 → Prop} (C : Cx G p R s m args meth c 2 cX12_plan RX12 n0 s0 4 87) (hr : meth.sig.returnType = (some .int))   {h : AH} {al0 : Nat}  (hw : wb_X12_plan_49  h al0 post) : AW G p l e R s m args below meth c 2 (QM G (pI post) args s below n0 s0) 49 [(0, .ref (G.1 + al0))] [] h := by
  unfold wb_X12_plan_49 at hw
  refine r_iconst (v := (-1)) C dX12_plan_49 (by decide) ?_
  refine r_aload_n C dX12_plan_50 0 rfl ?_
  refine r_getI C fl_RX12_184_11 hw.1 (fun _ _ _ => rfl) dX12_plan_51 ?_
  replace hw := hw.2
  refine r_isub C dX12_plan_54 ?_
  exact r_iret C hr dX12_plan_55 hw
def wb_X12_plan_26 (K26 : AH → Nat → Prop) (h : AH) (al0 : Nat)  (post : AH → Int32 → Prop) : Prop := (ob h al0 11) ∧ (((aI h al0 11) = 0 → ((ob h al0 11) ∧ (∃ rv1, aP h al0 6 = some rv1 ∧ ((ob h al0 11) ∧ ((ob h rv1 13) ∧ ((vp_in 249 (aL h rv1)) ∧ (∀ hv2 : AH, hv2 = hI h rv1 (249 : Int32).toNatClampNeg (aI h al0 27) → (∃ n, wl_X12_plan_83  post n hv2 al0 0)))))))) ∧ (¬ (aI h al0 11) = 0 → ((ob h al0 11) ∧ wp_X12_act h al0  (fun hv3 iv4 => (iv4 = 0 → (wb_X12_plan_49  hv3 al0 post)) ∧ (¬ iv4 = 0 → ((ob hv3 al0 11) ∧ wp_X12_sign hv3 al0 59 (fun hv5 iv6 => (¬ iv6 = 0 → ((ob hv5 al0 11) ∧ ((ob hv5 al0 11) ∧ (∀ hv7 : AH, hv7 = hI hv5 al0 27 ((aI hv5 al0 27) + (1 : Int32)) → (K26 hv7 al0))))) ∧ (iv6 = 0 → (wb_X12_plan_49  hv5 al0 post)))))))))
set_option maxRecDepth 100000 in
theorem tb_X12_plan_26 {G : GG} {p : Program} {l : Launch} {e : Env} {R : Room} {s : State} {m : MethodId} {args : Array Value} {below : List Frame} {meth : Method} {c : Code} {n0 s0 : Nat} {post : AH → Int32 → Prop} (C : Cx G p R s m args meth c 2 cX12_plan RX12 n0 s0 4 87) (hr : meth.sig.returnType = (some .int)) {K26 : AH → Nat → Prop} (hK26 : ∀ (h : AH) (al0 : Nat), K26 h al0 → AW G p l e R s m args below meth c 2 (QM G (pI post) args s below n0 s0) 26 [(0, .ref (G.1 + al0))] [] h) {h : AH} {al0 : Nat}  (hw : wb_X12_plan_26 K26 h al0 post) : AW G p l e R s m args below meth c 2 (QM G (pI post) args s below n0 s0) 26 [(0, .ref (G.1 + al0))] [] h := by
  unfold wb_X12_plan_26 at hw
  refine r_aload_n C dX12_plan_26 0 rfl ?_
  refine r_getI C fl_RX12_164_11 hw.1 (fun _ _ _ => rfl) dX12_plan_27 ?_
  replace hw := hw.2
  refine r_if_eq C dX12_plan_30 69 (by decide) (fun hc => ?_) (fun hc => ?_)
  · replace hw := hw.1 hc
    refine r_aload_n C dX12_plan_69 0 rfl ?_
    have hob := hw.1
    obtain ⟨rv1, hp, hw⟩ := hw.2
    refine r_getP C fl_RX12_33_11 hob hp (fun _ _ _ => rfl) dX12_plan_70 ?_
    refine r_sipush (v := 249) C dX12_plan_73 (by decide) ?_
    refine r_aload_n C dX12_plan_76 0 rfl ?_
    refine r_getI C fl_RX12_368_11 hw.1 (fun _ _ _ => rfl) dX12_plan_77 ?_
    replace hw := hw.2
    refine r_iastore C hw.1 hw.2.1 dX12_plan_80 ?_
    replace hw := hw.2.2
    refine r_toph fun hv2 ehv2 => ?_
    replace hw := hw hv2 ehv2
    refine r_iconst (v := 0) C dX12_plan_81 (by decide) ?_
    refine r_istore_n C dX12_plan_82 [(1, .int 0), (0, .ref (G.1 + al0))] (by decide) rfl ?_
    refine r_sub [1, 0] rfl ?_
    obtain ⟨n, hw⟩ := hw
    exact tl_X12_plan_83 C hr  n _ _ _ hw
  · replace hw := hw.2 hc
    refine r_aload_n C dX12_plan_33 0 rfl ?_
    have hob := hw.1
    replace hw := hw.2
    refine r_callV C (As := []) (rest := []) (c_X12_act G h al0  _ hw) yl_X12_act (gm8 (List.mem_of_getElem? (i := 165) rfl) rfl) (gm8 (List.mem_of_getElem? (i := 167) rfl) rfl) (ci := 11) rfl (by decide) (gsel (List.mem_of_getElem? (i := 88) rfl)) hob (by decide) rfl (Nat.le_of_ble_eq_true rfl) dX12_plan_34 rfl (kI fun hv3 iv4 hw => ?_)
    refine r_if_eq C dX12_plan_37 49 (by decide) (fun hc => ?_) (fun hc => ?_)
    · replace hw := hw.1 hc
      refine r_sub [0] rfl ?_
      exact tb_X12_plan_49 C hr  hw
    · replace hw := hw.2 hc
      refine r_aload_n C dX12_plan_40 0 rfl ?_
      refine r_bipush (v := 59) C dX12_plan_41 (by decide) ?_
      have hob := hw.1
      replace hw := hw.2
      refine r_callV C (As := [.int 59]) (rest := []) (c_X12_sign G hv3 al0 59 _ hw) yl_X12_sign (gm8 (List.mem_of_getElem? (i := 18) rfl) rfl) (gm8 (List.mem_of_getElem? (i := 20) rfl) rfl) (ci := 11) rfl (by decide) (gsel (List.mem_of_getElem? (i := 64) rfl)) hob (by decide) rfl (Nat.le_of_ble_eq_true rfl) dX12_plan_43 rfl (kI fun hv5 iv6 hw => ?_)
      refine r_if_ne C dX12_plan_46 56 (by decide) (fun hc => ?_) (fun hc => ?_)
      · replace hw := hw.1 hc
        refine r_aload_n C dX12_plan_56 0 rfl ?_
        refine r_dup C dX12_plan_57 rfl ?_
        refine r_getI C fl_RX12_368_11 hw.1 (fun _ _ _ => rfl) dX12_plan_58 ?_
        replace hw := hw.2
        refine r_iconst (v := 1) C dX12_plan_61 (by decide) ?_
        refine r_iadd C dX12_plan_62 ?_
        refine r_putI C fp_RX12_368_11 hw.1 rfl dX12_plan_63 ?_
        replace hw := hw.2
        refine r_toph fun hv7 ehv7 => ?_
        replace hw := hw hv7 ehv7
        refine r_goto C dX12_plan_66 26 (by decide) ?_
        refine r_sub [0] rfl ?_
        exact hK26 _ _ hw
      · replace hw := hw.2 hc
        refine r_sub [0] rfl ?_
        exact tb_X12_plan_49 C hr  hw
def wl_X12_plan_26  (post : AH → Int32 → Prop) : Nat → AH → Nat → Prop
  | 0 => fun _ _ => False
  | n + 1 => fun h al0 => wb_X12_plan_26  (wl_X12_plan_26  post n) h al0 post
theorem tl_X12_plan_26 {G : GG} {p : Program} {l : Launch} {e : Env} {R : Room} {s : State} {m : MethodId} {args : Array Value} {below : List Frame} {meth : Method} {c : Code} {n0 s0 : Nat} {post : AH → Int32 → Prop} (C : Cx G p R s m args meth c 2 cX12_plan RX12 n0 s0 4 87) (hr : meth.sig.returnType = (some .int))   : ∀ (n : Nat) (h : AH) (al0 : Nat), wl_X12_plan_26  post n h al0 → AW G p l e R s m args below meth c 2 (QM G (pI post) args s below n0 s0) 26 [(0, .ref (G.1 + al0))] [] h := by
  intro n
  induction n with
  | zero => intro h al0 hw; exact hw.elim
  | succ n ih => intro h al0 hw; exact tb_X12_plan_26 C hr  ih hw
def wp_X12_plan (h : AH) (a0 : Nat) (post : AH → Int32 → Prop) : Prop := (ob h a0 11) ∧ (∀ hv1 : AH, hv1 = hI h a0 0 0 → ((ob hv1 a0 11) ∧ wp_X12_taken hv1 a0 700 (fun hv2  => (ob hv2 a0 11) ∧ (∀ hv3 : AH, hv3 = hI hv2 a0 15 0 → ((ob hv3 a0 11) ∧ (∀ hv4 : AH, hv4 = hI hv3 a0 27 0 → ((ob hv4 a0 11) ∧ wp_X12_next hv4 a0  (fun hv5  => ∃ n, wl_X12_plan_26  post n hv5 a0))))))))
set_option maxRecDepth 100000 in
theorem c_X12_plan (G : GG) (h : AH) (a0 : Nat) (post : AH → Int32 → Prop) (hw : wp_X12_plan h a0 post) : MC G yX12_plan cX12_plan 2 (some .int) 4 87 h [.ref (G.1 + a0)] (pI post) := by
  refine MC.of (lv := [(0, .ref (G.1 + a0))]) (by decide) (Nat.le_of_ble_eq_true rfl) rfl fun p l e R s m args below meth c C hr hnm => ?_
  unfold wp_X12_plan at hw
  refine r_aload_n C dX12_plan_0 0 rfl ?_
  refine r_iconst (v := 0) C dX12_plan_1 (by decide) ?_
  refine r_putI C fp_RX12_1_11 hw.1 rfl dX12_plan_2 ?_
  replace hw := hw.2
  refine r_toph fun hv1 ehv1 => ?_
  replace hw := hw hv1 ehv1
  refine r_aload_n C dX12_plan_5 0 rfl ?_
  refine r_sipush (v := 700) C dX12_plan_6 (by decide) ?_
  have hob := hw.1
  replace hw := hw.2
  refine r_callV C (As := [.int 700]) (rest := []) (c_X12_taken G hv1 a0 700 _ hw) yl_X12_taken (gm7 (List.mem_of_getElem? (i := 147) rfl) rfl) (gm7 (List.mem_of_getElem? (i := 149) rfl) rfl) (ci := 11) rfl (by decide) (gsel (List.mem_of_getElem? (i := 40) rfl)) hob (by decide) rfl (Nat.le_of_ble_eq_true rfl) dX12_plan_9 rfl (kV fun hv2  hw => ?_)
  refine r_aload_n C dX12_plan_12 0 rfl ?_
  refine r_iconst (v := 0) C dX12_plan_13 (by decide) ?_
  refine r_putI C fp_RX12_181_11 hw.1 rfl dX12_plan_14 ?_
  replace hw := hw.2
  refine r_toph fun hv3 ehv3 => ?_
  replace hw := hw hv3 ehv3
  refine r_aload_n C dX12_plan_17 0 rfl ?_
  refine r_iconst (v := 0) C dX12_plan_18 (by decide) ?_
  refine r_putI C fp_RX12_368_11 hw.1 rfl dX12_plan_19 ?_
  replace hw := hw.2
  refine r_toph fun hv4 ehv4 => ?_
  replace hw := hw hv4 ehv4
  refine r_aload_n C dX12_plan_22 0 rfl ?_
  have hob := hw.1
  replace hw := hw.2
  refine r_callV C (As := []) (rest := []) (c_X12_next G hv4 a0  _ hw) yl_X12_next (gm7 (List.mem_of_getElem? (i := 151) rfl) rfl) (gm7 (List.mem_of_getElem? (i := 153) rfl) rfl) (ci := 11) rfl (by decide) (gsel (List.mem_of_getElem? (i := 41) rfl)) hob (by decide) rfl (Nat.le_of_ble_eq_true rfl) dX12_plan_23 rfl (kV fun hv5  hw => ?_)
  refine r_sub [0] rfl ?_
  obtain ⟨n, hw⟩ := hw
  exact tl_X12_plan_26 C hr  n _ _ hw
theorem dX12_act__0 : decode cX12_act_ 0 = .ok (.aload_n 0, 1) := by decide +kernel
theorem dX12_act__1 : decode cX12_act_ 1 = .ok (.iload_n 1, 1) := by decide +kernel
theorem dX12_act__2 : decode cX12_act_ 2 = .ok (.iconst 0, 1) := by decide +kernel
theorem dX12_act__3 : decode cX12_act_ 3 = .ok (.aload_n 0, 1) := by decide +kernel
theorem dX12_act__4 : decode cX12_act_ 4 = .ok (.getfield 33, 3) := by decide +kernel
theorem dX12_act__7 : decode cX12_act_ 7 = .ok (.sipush 249, 3) := by decide +kernel
theorem dX12_act__10 : decode cX12_act_ 10 = .ok (.iaload, 1) := by decide +kernel
theorem dX12_act__11 : decode cX12_act_ 11 = .ok (.iconst 1, 1) := by decide +kernel
theorem dX12_act__12 : decode cX12_act_ 12 = .ok (.isub, 1) := by decide +kernel
theorem dX12_act__13 : decode cX12_act_ 13 = .ok (.invokestatic 196, 3) := by decide +kernel
theorem dX12_act__16 : decode cX12_act_ 16 = .ok (.ifCond .eq 12, 3) := by decide +kernel
theorem dX12_act__19 : decode cX12_act_ 19 = .ok (.iload_n 2, 1) := by decide +kernel
theorem dX12_act__20 : decode cX12_act_ 20 = .ok (.iconst 0, 1) := by decide +kernel
theorem dX12_act__21 : decode cX12_act_ 21 = .ok (.iconst 1, 1) := by decide +kernel
theorem dX12_act__22 : decode cX12_act_ 22 = .ok (.invokestatic 196, 3) := by decide +kernel
theorem dX12_act__25 : decode cX12_act_ 25 = .ok (.ifCond .ne 7, 3) := by decide +kernel
theorem dX12_act__28 : decode cX12_act_ 28 = .ok (.iconst 1, 1) := by decide +kernel
theorem dX12_act__29 : decode cX12_act_ 29 = .ok (.goto 4, 3) := by decide +kernel
theorem dX12_act__32 : decode cX12_act_ 32 = .ok (.iconst 0, 1) := by decide +kernel
theorem dX12_act__33 : decode cX12_act_ 33 = .ok (.invokevirtual 313, 3) := by decide +kernel
theorem dX12_act__36 : decode cX12_act_ 36 = .ok (.ifCond .eq 7, 3) := by decide +kernel
theorem dX12_act__39 : decode cX12_act_ 39 = .ok (.iconst 0, 1) := by decide +kernel
theorem dX12_act__40 : decode cX12_act_ 40 = .ok (.goto 17, 3) := by decide +kernel
theorem dX12_act__43 : decode cX12_act_ 43 = .ok (.aload_n 0, 1) := by decide +kernel
theorem dX12_act__44 : decode cX12_act_ 44 = .ok (.getfield 33, 3) := by decide +kernel
theorem dX12_act__47 : decode cX12_act_ 47 = .ok (.sipush 250, 3) := by decide +kernel
theorem dX12_act__50 : decode cX12_act_ 50 = .ok (.iconst 2, 1) := by decide +kernel
theorem dX12_act__51 : decode cX12_act_ 51 = .ok (.iload_n 1, 1) := by decide +kernel
theorem dX12_act__52 : decode cX12_act_ 52 = .ok (.imul, 1) := by decide +kernel
theorem dX12_act__53 : decode cX12_act_ 53 = .ok (.iadd, 1) := by decide +kernel
theorem dX12_act__54 : decode cX12_act_ 54 = .ok (.iload_n 2, 1) := by decide +kernel
theorem dX12_act__55 : decode cX12_act_ 55 = .ok (.iadd, 1) := by decide +kernel
theorem dX12_act__56 : decode cX12_act_ 56 = .ok (.iaload, 1) := by decide +kernel
theorem dX12_act__57 : decode cX12_act_ 57 = .ok (.ireturn, 1) := by decide +kernel
def wb_X12_act__33  (h : AH) (al0 : Nat) (xl1 : Int32) (xl2 : Int32) (xs0 : Int32) (as1 : Nat) (post : AH → Int32 → Prop) : Prop := (ob h as1 11) ∧ wp_X12_throwsIf h as1 xs0 (fun hv1 iv2 => (iv2 = 0 → ((ob hv1 al0 11) ∧ (∃ rv3, aP hv1 al0 6 = some rv3 ∧ ((ob hv1 rv3 13) ∧ ((vp_in (((250 : Int32) + ((2 : Int32) * xl1)) + xl2) (aL hv1 rv3)) ∧ (post hv1 (aI hv1 rv3 (((250 : Int32) + ((2 : Int32) * xl1)) + xl2).toNatClampNeg))))))) ∧ (¬ iv2 = 0 → (post hv1 0)))
set_option maxRecDepth 100000 in
theorem tb_X12_act__33 {G : GG} {p : Program} {l : Launch} {e : Env} {R : Room} {s : State} {m : MethodId} {args : Array Value} {below : List Frame} {meth : Method} {c : Code} {n0 s0 : Nat} {post : AH → Int32 → Prop} (C : Cx G p R s m args meth c 3 cX12_act_ RX12 n0 s0 1 22) (hr : meth.sig.returnType = (some .int))   {h : AH} {al0 : Nat} {xl1 : Int32} {xl2 : Int32} {xs0 : Int32} {as1 : Nat} (hw : wb_X12_act__33  h al0 xl1 xl2 xs0 as1 post) : AW G p l e R s m args below meth c 3 (QM G (pI post) args s below n0 s0) 33 [(0, .ref (G.1 + al0)), (1, .int xl1), (2, .int xl2)] [.int xs0, .ref (G.1 + as1)] h := by
  unfold wb_X12_act__33 at hw
  have hob := hw.1
  replace hw := hw.2
  refine r_callV C (As := [.int xs0]) (rest := []) (c_X12_throwsIf G h as1 xs0 _ hw) yl_X12_throwsIf (gm8 (List.mem_of_getElem? (i := 53) rfl) rfl) (gm8 (List.mem_of_getElem? (i := 55) rfl) rfl) (ci := 11) rfl (by decide) (gsel (List.mem_of_getElem? (i := 69) rfl)) hob (by decide) rfl (Nat.le_of_ble_eq_true rfl) dX12_act__33 rfl (kI fun hv1 iv2 hw => ?_)
  refine r_if_eq C dX12_act__36 43 (by decide) (fun hc => ?_) (fun hc => ?_)
  · replace hw := hw.1 hc
    refine r_aload_n C dX12_act__43 0 rfl ?_
    have hob := hw.1
    obtain ⟨rv3, hp, hw⟩ := hw.2
    refine r_getP C fl_RX12_33_11 hob hp (fun _ _ _ => rfl) dX12_act__44 ?_
    refine r_sipush (v := 250) C dX12_act__47 (by decide) ?_
    refine r_iconst (v := 2) C dX12_act__50 (by decide) ?_
    refine r_iload_n C dX12_act__51 1 rfl ?_
    refine r_imul C dX12_act__52 ?_
    refine r_iadd C dX12_act__53 ?_
    refine r_iload_n C dX12_act__54 2 rfl ?_
    refine r_iadd C dX12_act__55 ?_
    refine r_iaload C hw.1 hw.2.1 dX12_act__56 ?_
    replace hw := hw.2.2
    exact r_iret C hr dX12_act__57 hw
  · replace hw := hw.2 hc
    refine r_iconst (v := 0) C dX12_act__39 (by decide) ?_
    refine r_goto C dX12_act__40 57 (by decide) ?_
    exact r_iret C hr dX12_act__57 hw
def wb_X12_act__28  (h : AH) (al0 : Nat) (xl1 : Int32) (xl2 : Int32) (as0 : Nat) (post : AH → Int32 → Prop) : Prop := wb_X12_act__33  h al0 xl1 xl2 1 as0 post
set_option maxRecDepth 100000 in
theorem tb_X12_act__28 {G : GG} {p : Program} {l : Launch} {e : Env} {R : Room} {s : State} {m : MethodId} {args : Array Value} {below : List Frame} {meth : Method} {c : Code} {n0 s0 : Nat} {post : AH → Int32 → Prop} (C : Cx G p R s m args meth c 3 cX12_act_ RX12 n0 s0 1 22) (hr : meth.sig.returnType = (some .int))   {h : AH} {al0 : Nat} {xl1 : Int32} {xl2 : Int32} {as0 : Nat} (hw : wb_X12_act__28  h al0 xl1 xl2 as0 post) : AW G p l e R s m args below meth c 3 (QM G (pI post) args s below n0 s0) 28 [(0, .ref (G.1 + al0)), (1, .int xl1), (2, .int xl2)] [.ref (G.1 + as0)] h := by
  unfold wb_X12_act__28 at hw
  refine r_iconst (v := 1) C dX12_act__28 (by decide) ?_
  refine r_goto C dX12_act__29 33 (by decide) ?_
  refine r_sub [0, 1, 2] rfl ?_
  exact tb_X12_act__33 C hr  hw
def wp_X12_act_ (h : AH) (a0 : Nat) (x1 : Int32) (x2 : Int32) (post : AH → Int32 → Prop) : Prop := (ob h a0 11) ∧ (∃ rv1, aP h a0 6 = some rv1 ∧ ((ob h rv1 13) ∧ ((vp_in 249 (aL h rv1)) ∧ (wp_X12_isIn h x1 0 ((aI h rv1 (249 : Int32).toNatClampNeg) - (1 : Int32)) (fun hv2 iv3 => (iv3 = 0 → (wb_X12_act__28  hv2 a0 x1 x2 a0 post)) ∧ (¬ iv3 = 0 → (wp_X12_isIn hv2 x2 0 1 (fun hv4 iv5 => (¬ iv5 = 0 → (wb_X12_act__33  hv4 a0 x1 x2 0 a0 post)) ∧ (iv5 = 0 → (wb_X12_act__28  hv4 a0 x1 x2 a0 post))))))))))
set_option maxRecDepth 100000 in
theorem c_X12_act_ (G : GG) (h : AH) (a0 : Nat) (x1 : Int32) (x2 : Int32) (post : AH → Int32 → Prop) (hw : wp_X12_act_ h a0 x1 x2 post) : MC G yX12_act_ cX12_act_ 3 (some .int) 1 22 h [.ref (G.1 + a0), .int x1, .int x2] (pI post) := by
  refine MC.of (lv := [(0, .ref (G.1 + a0)), (1, .int x1), (2, .int x2)]) (by decide) (Nat.le_of_ble_eq_true rfl) rfl fun p l e R s m args below meth c C hr hnm => ?_
  unfold wp_X12_act_ at hw
  refine r_aload_n C dX12_act__0 0 rfl ?_
  refine r_iload_n C dX12_act__1 1 rfl ?_
  refine r_iconst (v := 0) C dX12_act__2 (by decide) ?_
  refine r_aload_n C dX12_act__3 0 rfl ?_
  have hob := hw.1
  obtain ⟨rv1, hp, hw⟩ := hw.2
  refine r_getP C fl_RX12_33_11 hob hp (fun _ _ _ => rfl) dX12_act__4 ?_
  refine r_sipush (v := 249) C dX12_act__7 (by decide) ?_
  refine r_iaload C hw.1 hw.2.1 dX12_act__10 ?_
  replace hw := hw.2.2
  refine r_iconst (v := 1) C dX12_act__11 (by decide) ?_
  refine r_isub C dX12_act__12 ?_
  refine r_callS C (As := [.int x1, .int 0, .int ((aI h rv1 (249 : Int32).toNatClampNeg) - (1 : Int32))]) (rest := [.ref (G.1 + a0)]) (c_X12_isIn G h x1 0 ((aI h rv1 (249 : Int32).toNatClampNeg) - (1 : Int32)) _ hw) yl_X12_isIn (gm7 (List.mem_of_getElem? (i := 189) rfl) rfl) (gm7 (List.mem_of_getElem? (i := 190) rfl) rfl) (by decide) rfl (Nat.le_of_ble_eq_true rfl) dX12_act__13 rfl (kI fun hv2 iv3 hw => ?_)
  refine r_if_eq C dX12_act__16 28 (by decide) (fun hc => ?_) (fun hc => ?_)
  · replace hw := hw.1 hc
    refine r_sub [0, 1, 2] rfl ?_
    exact tb_X12_act__28 C hr  hw
  · replace hw := hw.2 hc
    refine r_iload_n C dX12_act__19 2 rfl ?_
    refine r_iconst (v := 0) C dX12_act__20 (by decide) ?_
    refine r_iconst (v := 1) C dX12_act__21 (by decide) ?_
    refine r_callS C (As := [.int x2, .int 0, .int 1]) (rest := [.ref (G.1 + a0)]) (c_X12_isIn G hv2 x2 0 1 _ hw) yl_X12_isIn (gm7 (List.mem_of_getElem? (i := 189) rfl) rfl) (gm7 (List.mem_of_getElem? (i := 190) rfl) rfl) (by decide) rfl (Nat.le_of_ble_eq_true rfl) dX12_act__22 rfl (kI fun hv4 iv5 hw => ?_)
    refine r_if_ne C dX12_act__25 32 (by decide) (fun hc => ?_) (fun hc => ?_)
    · replace hw := hw.1 hc
      refine r_iconst (v := 0) C dX12_act__32 (by decide) ?_
      refine r_sub [0, 1, 2] rfl ?_
      exact tb_X12_act__33 C hr  hw
    · replace hw := hw.2 hc
      refine r_sub [0, 1, 2] rfl ?_
      exact tb_X12_act__28 C hr  hw
theorem dX12_isBusyTown_0 : decode cX12_isBusyTown 0 = .ok (.iconst 0, 1) := by decide +kernel
theorem dX12_isBusyTown_1 : decode cX12_isBusyTown 1 = .ok (.istore_n 1, 1) := by decide +kernel
theorem dX12_isBusyTown_2 : decode cX12_isBusyTown 2 = .ok (.iload_n 1, 1) := by decide +kernel
theorem dX12_isBusyTown_3 : decode cX12_isBusyTown 3 = .ok (.aload_n 0, 1) := by decide +kernel
theorem dX12_isBusyTown_4 : decode cX12_isBusyTown 4 = .ok (.getfield 33, 3) := by decide +kernel
theorem dX12_isBusyTown_7 : decode cX12_isBusyTown 7 = .ok (.bipush 9, 2) := by decide +kernel
theorem dX12_isBusyTown_9 : decode cX12_isBusyTown 9 = .ok (.iaload, 1) := by decide +kernel
theorem dX12_isBusyTown_10 : decode cX12_isBusyTown 10 = .ok (.if_icmp .ge 74, 3) := by decide +kernel
theorem dX12_isBusyTown_13 : decode cX12_isBusyTown 13 = .ok (.iconst 0, 1) := by decide +kernel
theorem dX12_isBusyTown_14 : decode cX12_isBusyTown 14 = .ok (.istore_n 2, 1) := by decide +kernel
theorem dX12_isBusyTown_15 : decode cX12_isBusyTown 15 = .ok (.iload_n 2, 1) := by decide +kernel
theorem dX12_isBusyTown_16 : decode cX12_isBusyTown 16 = .ok (.aload_n 0, 1) := by decide +kernel
theorem dX12_isBusyTown_17 : decode cX12_isBusyTown 17 = .ok (.getfield 33, 3) := by decide +kernel
theorem dX12_isBusyTown_20 : decode cX12_isBusyTown 20 = .ok (.bipush 8, 2) := by decide +kernel
theorem dX12_isBusyTown_22 : decode cX12_isBusyTown 22 = .ok (.iaload, 1) := by decide +kernel
theorem dX12_isBusyTown_23 : decode cX12_isBusyTown 23 = .ok (.if_icmp .ge 55, 3) := by decide +kernel
theorem dX12_isBusyTown_26 : decode cX12_isBusyTown 26 = .ok (.iconst 0, 1) := by decide +kernel
theorem dX12_isBusyTown_27 : decode cX12_isBusyTown 27 = .ok (.istore_n 3, 1) := by decide +kernel
theorem dX12_isBusyTown_28 : decode cX12_isBusyTown 28 = .ok (.iload_n 3, 1) := by decide +kernel
theorem dX12_isBusyTown_29 : decode cX12_isBusyTown 29 = .ok (.aload_n 0, 1) := by decide +kernel
theorem dX12_isBusyTown_30 : decode cX12_isBusyTown 30 = .ok (.getfield 33, 3) := by decide +kernel
theorem dX12_isBusyTown_33 : decode cX12_isBusyTown 33 = .ok (.iconst 2, 1) := by decide +kernel
theorem dX12_isBusyTown_34 : decode cX12_isBusyTown 34 = .ok (.iaload, 1) := by decide +kernel
theorem dX12_isBusyTown_35 : decode cX12_isBusyTown 35 = .ok (.if_icmp .ge 37, 3) := by decide +kernel
theorem dX12_isBusyTown_38 : decode cX12_isBusyTown 38 = .ok (.aload_n 0, 1) := by decide +kernel
theorem dX12_isBusyTown_39 : decode cX12_isBusyTown 39 = .ok (.iload_n 3, 1) := by decide +kernel
theorem dX12_isBusyTown_40 : decode cX12_isBusyTown 40 = .ok (.aload_n 0, 1) := by decide +kernel
theorem dX12_isBusyTown_41 : decode cX12_isBusyTown 41 = .ok (.getfield 33, 3) := by decide +kernel
theorem dX12_isBusyTown_44 : decode cX12_isBusyTown 44 = .ok (.bipush 6, 2) := by decide +kernel
theorem dX12_isBusyTown_46 : decode cX12_isBusyTown 46 = .ok (.iaload, 1) := by decide +kernel
theorem dX12_isBusyTown_47 : decode cX12_isBusyTown 47 = .ok (.iload_n 2, 1) := by decide +kernel
theorem dX12_isBusyTown_48 : decode cX12_isBusyTown 48 = .ok (.iadd, 1) := by decide +kernel
theorem dX12_isBusyTown_49 : decode cX12_isBusyTown 49 = .ok (.aload_n 0, 1) := by decide +kernel
theorem dX12_isBusyTown_50 : decode cX12_isBusyTown 50 = .ok (.getfield 33, 3) := by decide +kernel
theorem dX12_isBusyTown_53 : decode cX12_isBusyTown 53 = .ok (.bipush 7, 2) := by decide +kernel
theorem dX12_isBusyTown_55 : decode cX12_isBusyTown 55 = .ok (.iaload, 1) := by decide +kernel
theorem dX12_isBusyTown_56 : decode cX12_isBusyTown 56 = .ok (.iload_n 1, 1) := by decide +kernel
theorem dX12_isBusyTown_57 : decode cX12_isBusyTown 57 = .ok (.iadd, 1) := by decide +kernel
theorem dX12_isBusyTown_58 : decode cX12_isBusyTown 58 = .ok (.invokevirtual 320, 3) := by decide +kernel
theorem dX12_isBusyTown_61 : decode cX12_isBusyTown 61 = .ok (.ifCond .eq 5, 3) := by decide +kernel
theorem dX12_isBusyTown_64 : decode cX12_isBusyTown 64 = .ok (.iconst 1, 1) := by decide +kernel
theorem dX12_isBusyTown_65 : decode cX12_isBusyTown 65 = .ok (.ireturn, 1) := by decide +kernel
theorem dX12_isBusyTown_66 : decode cX12_isBusyTown 66 = .ok (.iinc 3 1, 3) := by decide +kernel
theorem dX12_isBusyTown_69 : decode cX12_isBusyTown 69 = .ok (.goto (-41), 3) := by decide +kernel
theorem dX12_isBusyTown_72 : decode cX12_isBusyTown 72 = .ok (.iinc 2 1, 3) := by decide +kernel
theorem dX12_isBusyTown_75 : decode cX12_isBusyTown 75 = .ok (.goto (-60), 3) := by decide +kernel
theorem dX12_isBusyTown_78 : decode cX12_isBusyTown 78 = .ok (.iinc 1 1, 3) := by decide +kernel
theorem dX12_isBusyTown_81 : decode cX12_isBusyTown 81 = .ok (.goto (-79), 3) := by decide +kernel
theorem dX12_isBusyTown_84 : decode cX12_isBusyTown 84 = .ok (.iconst 0, 1) := by decide +kernel
theorem dX12_isBusyTown_85 : decode cX12_isBusyTown 85 = .ok (.ireturn, 1) := by decide +kernel
def wb_X12_isBusyTown_28 (K2 : AH → Nat → Int32 → Prop) (K15 : AH → Nat → Int32 → Int32 → Prop) (K28 : AH → Nat → Int32 → Int32 → Int32 → Prop) (h : AH) (al0 : Nat) (xl1 : Int32) (xl2 : Int32) (xl3 : Int32)  (post : AH → Int32 → Prop) : Prop := (ob h al0 11) ∧ (∃ rv1, aP h al0 6 = some rv1 ∧ ((ob h rv1 13) ∧ ((vp_in 2 (aL h rv1)) ∧ (((aI h rv1 (2 : Int32).toNatClampNeg) ≤ xl3 → (∀ iv2 : Int32, iv2 = xl2 + 1 → (K15 h al0 xl1 iv2))) ∧ (¬ (aI h rv1 (2 : Int32).toNatClampNeg) ≤ xl3 → ((ob h al0 11) ∧ (∃ rv3, aP h al0 6 = some rv3 ∧ ((ob h rv3 13) ∧ ((vp_in 6 (aL h rv3)) ∧ ((ob h al0 11) ∧ (∃ rv4, aP h al0 6 = some rv4 ∧ ((ob h rv4 13) ∧ ((vp_in 7 (aL h rv4)) ∧ ((ob h al0 11) ∧ wp_X12_isOn h al0 xl3 ((aI h rv3 (6 : Int32).toNatClampNeg) + xl2) ((aI h rv4 (7 : Int32).toNatClampNeg) + xl1) (fun hv5 iv6 => (iv6 = 0 → (∀ iv7 : Int32, iv7 = xl3 + 1 → (K28 hv5 al0 xl1 xl2 iv7))) ∧ (¬ iv6 = 0 → (((1 : Int32) = 0 ∨ (1 : Int32) = 1) ∧ post hv5 1)))))))))))))))))
set_option maxRecDepth 100000 in
theorem tb_X12_isBusyTown_28 {G : GG} {p : Program} {l : Launch} {e : Env} {R : Room} {s : State} {m : MethodId} {args : Array Value} {below : List Frame} {meth : Method} {c : Code} {n0 s0 : Nat} {post : AH → Int32 → Prop} (C : Cx G p R s m args meth c 4 cX12_isBusyTown RX12 n0 s0 2 44) (hr : meth.sig.returnType = (some .boolean)) {K2 : AH → Nat → Int32 → Prop} {K15 : AH → Nat → Int32 → Int32 → Prop} {K28 : AH → Nat → Int32 → Int32 → Int32 → Prop} (hK2 : ∀ (h : AH) (al0 : Nat) (xl1 : Int32), K2 h al0 xl1 → AW G p l e R s m args below meth c 4 (QM G (pI post) args s below n0 s0) 2 [(0, .ref (G.1 + al0)), (1, .int xl1)] [] h) (hK15 : ∀ (h : AH) (al0 : Nat) (xl1 : Int32) (xl2 : Int32), K15 h al0 xl1 xl2 → AW G p l e R s m args below meth c 4 (QM G (pI post) args s below n0 s0) 15 [(0, .ref (G.1 + al0)), (1, .int xl1), (2, .int xl2)] [] h) (hK28 : ∀ (h : AH) (al0 : Nat) (xl1 : Int32) (xl2 : Int32) (xl3 : Int32), K28 h al0 xl1 xl2 xl3 → AW G p l e R s m args below meth c 4 (QM G (pI post) args s below n0 s0) 28 [(0, .ref (G.1 + al0)), (1, .int xl1), (2, .int xl2), (3, .int xl3)] [] h) {h : AH} {al0 : Nat} {xl1 : Int32} {xl2 : Int32} {xl3 : Int32}  (hw : wb_X12_isBusyTown_28 K2 K15 K28 h al0 xl1 xl2 xl3 post) : AW G p l e R s m args below meth c 4 (QM G (pI post) args s below n0 s0) 28 [(0, .ref (G.1 + al0)), (1, .int xl1), (2, .int xl2), (3, .int xl3)] [] h := by
  unfold wb_X12_isBusyTown_28 at hw
  refine r_iload_n C dX12_isBusyTown_28 3 rfl ?_
  refine r_aload_n C dX12_isBusyTown_29 0 rfl ?_
  have hob := hw.1
  obtain ⟨rv1, hp, hw⟩ := hw.2
  refine r_getP C fl_RX12_33_11 hob hp (fun _ _ _ => rfl) dX12_isBusyTown_30 ?_
  refine r_iconst (v := 2) C dX12_isBusyTown_33 (by decide) ?_
  refine r_iaload C hw.1 hw.2.1 dX12_isBusyTown_34 ?_
  replace hw := hw.2.2
  refine r_icmp_ge C dX12_isBusyTown_35 72 (by decide) (fun hc => ?_) (fun hc => ?_)
  · replace hw := hw.1 hc
    obtain ⟨iv2, eiv2⟩ : ∃ q : Int32, q = xl2 + 1 := ⟨_, rfl⟩
    replace hw := hw iv2 eiv2
    refine r_iinc C dX12_isBusyTown_72 2 rfl (by rw [eiv2]; rfl) [(2, .int iv2), (0, .ref (G.1 + al0)), (1, .int xl1), (3, .int xl3)] (by decide) rfl ?_
    refine r_goto C dX12_isBusyTown_75 15 (by decide) ?_
    refine r_sub [1, 2, 0] rfl ?_
    exact hK15 _ _ _ _ hw
  · replace hw := hw.2 hc
    refine r_aload_n C dX12_isBusyTown_38 0 rfl ?_
    refine r_iload_n C dX12_isBusyTown_39 3 rfl ?_
    refine r_aload_n C dX12_isBusyTown_40 0 rfl ?_
    have hob := hw.1
    obtain ⟨rv3, hp, hw⟩ := hw.2
    refine r_getP C fl_RX12_33_11 hob hp (fun _ _ _ => rfl) dX12_isBusyTown_41 ?_
    refine r_bipush (v := 6) C dX12_isBusyTown_44 (by decide) ?_
    refine r_iaload C hw.1 hw.2.1 dX12_isBusyTown_46 ?_
    replace hw := hw.2.2
    refine r_iload_n C dX12_isBusyTown_47 2 rfl ?_
    refine r_iadd C dX12_isBusyTown_48 ?_
    refine r_aload_n C dX12_isBusyTown_49 0 rfl ?_
    have hob := hw.1
    obtain ⟨rv4, hp, hw⟩ := hw.2
    refine r_getP C fl_RX12_33_11 hob hp (fun _ _ _ => rfl) dX12_isBusyTown_50 ?_
    refine r_bipush (v := 7) C dX12_isBusyTown_53 (by decide) ?_
    refine r_iaload C hw.1 hw.2.1 dX12_isBusyTown_55 ?_
    replace hw := hw.2.2
    refine r_iload_n C dX12_isBusyTown_56 1 rfl ?_
    refine r_iadd C dX12_isBusyTown_57 ?_
    have hob := hw.1
    replace hw := hw.2
    refine r_callV C (As := [.int xl3, .int ((aI h rv3 (6 : Int32).toNatClampNeg) + xl2), .int ((aI h rv4 (7 : Int32).toNatClampNeg) + xl1)]) (rest := []) (c_X12_isOn G h al0 xl3 ((aI h rv3 (6 : Int32).toNatClampNeg) + xl2) ((aI h rv4 (7 : Int32).toNatClampNeg) + xl1) _ hw) yl_X12_isOn (gm8 (List.mem_of_getElem? (i := 65) rfl) rfl) (gm8 (List.mem_of_getElem? (i := 67) rfl) rfl) (ci := 11) rfl (by decide) (gsel (List.mem_of_getElem? (i := 71) rfl)) hob (by decide) rfl (Nat.le_of_ble_eq_true rfl) dX12_isBusyTown_58 rfl (kI fun hv5 iv6 hw => ?_)
    refine r_if_eq C dX12_isBusyTown_61 66 (by decide) (fun hc => ?_) (fun hc => ?_)
    · replace hw := hw.1 hc
      obtain ⟨iv7, eiv7⟩ : ∃ q : Int32, q = xl3 + 1 := ⟨_, rfl⟩
      replace hw := hw iv7 eiv7
      refine r_iinc C dX12_isBusyTown_66 3 rfl (by rw [eiv7]; rfl) [(3, .int iv7), (0, .ref (G.1 + al0)), (1, .int xl1), (2, .int xl2)] (by decide) rfl ?_
      refine r_goto C dX12_isBusyTown_69 28 (by decide) ?_
      refine r_sub [1, 2, 3, 0] rfl ?_
      exact hK28 _ _ _ _ _ hw
    · replace hw := hw.2 hc
      refine r_iconst (v := 1) C dX12_isBusyTown_64 (by decide) ?_
      exact r_zret C hr dX12_isBusyTown_65 hw.1 hw.2
def wl_X12_isBusyTown_28 (K2 : AH → Nat → Int32 → Prop) (K15 : AH → Nat → Int32 → Int32 → Prop) (post : AH → Int32 → Prop) : Nat → AH → Nat → Int32 → Int32 → Int32 → Prop
  | 0 => fun _ _ _ _ _ => False
  | n + 1 => fun h al0 xl1 xl2 xl3 => wb_X12_isBusyTown_28 K2 K15 (wl_X12_isBusyTown_28 K2 K15 post n) h al0 xl1 xl2 xl3 post
theorem tl_X12_isBusyTown_28 {G : GG} {p : Program} {l : Launch} {e : Env} {R : Room} {s : State} {m : MethodId} {args : Array Value} {below : List Frame} {meth : Method} {c : Code} {n0 s0 : Nat} {post : AH → Int32 → Prop} (C : Cx G p R s m args meth c 4 cX12_isBusyTown RX12 n0 s0 2 44) (hr : meth.sig.returnType = (some .boolean)) {K2 : AH → Nat → Int32 → Prop} {K15 : AH → Nat → Int32 → Int32 → Prop} (hK2 : ∀ (h : AH) (al0 : Nat) (xl1 : Int32), K2 h al0 xl1 → AW G p l e R s m args below meth c 4 (QM G (pI post) args s below n0 s0) 2 [(0, .ref (G.1 + al0)), (1, .int xl1)] [] h) (hK15 : ∀ (h : AH) (al0 : Nat) (xl1 : Int32) (xl2 : Int32), K15 h al0 xl1 xl2 → AW G p l e R s m args below meth c 4 (QM G (pI post) args s below n0 s0) 15 [(0, .ref (G.1 + al0)), (1, .int xl1), (2, .int xl2)] [] h) : ∀ (n : Nat) (h : AH) (al0 : Nat) (xl1 : Int32) (xl2 : Int32) (xl3 : Int32), wl_X12_isBusyTown_28 K2 K15 post n h al0 xl1 xl2 xl3 → AW G p l e R s m args below meth c 4 (QM G (pI post) args s below n0 s0) 28 [(0, .ref (G.1 + al0)), (1, .int xl1), (2, .int xl2), (3, .int xl3)] [] h := by
  intro n
  induction n with
  | zero => intro h al0 xl1 xl2 xl3 hw; exact hw.elim
  | succ n ih => intro h al0 xl1 xl2 xl3 hw; exact tb_X12_isBusyTown_28 C hr hK2 hK15 ih hw
def wb_X12_isBusyTown_15 (K2 : AH → Nat → Int32 → Prop) (K15 : AH → Nat → Int32 → Int32 → Prop) (h : AH) (al0 : Nat) (xl1 : Int32) (xl2 : Int32)  (post : AH → Int32 → Prop) : Prop := (ob h al0 11) ∧ (∃ rv1, aP h al0 6 = some rv1 ∧ ((ob h rv1 13) ∧ ((vp_in 8 (aL h rv1)) ∧ (((aI h rv1 (8 : Int32).toNatClampNeg) ≤ xl2 → (∀ iv2 : Int32, iv2 = xl1 + 1 → (K2 h al0 iv2))) ∧ (¬ (aI h rv1 (8 : Int32).toNatClampNeg) ≤ xl2 → (∃ n, wl_X12_isBusyTown_28 K2 K15 post n h al0 xl1 xl2 0))))))
set_option maxRecDepth 100000 in
theorem tb_X12_isBusyTown_15 {G : GG} {p : Program} {l : Launch} {e : Env} {R : Room} {s : State} {m : MethodId} {args : Array Value} {below : List Frame} {meth : Method} {c : Code} {n0 s0 : Nat} {post : AH → Int32 → Prop} (C : Cx G p R s m args meth c 4 cX12_isBusyTown RX12 n0 s0 2 44) (hr : meth.sig.returnType = (some .boolean)) {K2 : AH → Nat → Int32 → Prop} {K15 : AH → Nat → Int32 → Int32 → Prop} (hK2 : ∀ (h : AH) (al0 : Nat) (xl1 : Int32), K2 h al0 xl1 → AW G p l e R s m args below meth c 4 (QM G (pI post) args s below n0 s0) 2 [(0, .ref (G.1 + al0)), (1, .int xl1)] [] h) (hK15 : ∀ (h : AH) (al0 : Nat) (xl1 : Int32) (xl2 : Int32), K15 h al0 xl1 xl2 → AW G p l e R s m args below meth c 4 (QM G (pI post) args s below n0 s0) 15 [(0, .ref (G.1 + al0)), (1, .int xl1), (2, .int xl2)] [] h) {h : AH} {al0 : Nat} {xl1 : Int32} {xl2 : Int32}  (hw : wb_X12_isBusyTown_15 K2 K15 h al0 xl1 xl2 post) : AW G p l e R s m args below meth c 4 (QM G (pI post) args s below n0 s0) 15 [(0, .ref (G.1 + al0)), (1, .int xl1), (2, .int xl2)] [] h := by
  unfold wb_X12_isBusyTown_15 at hw
  refine r_iload_n C dX12_isBusyTown_15 2 rfl ?_
  refine r_aload_n C dX12_isBusyTown_16 0 rfl ?_
  have hob := hw.1
  obtain ⟨rv1, hp, hw⟩ := hw.2
  refine r_getP C fl_RX12_33_11 hob hp (fun _ _ _ => rfl) dX12_isBusyTown_17 ?_
  refine r_bipush (v := 8) C dX12_isBusyTown_20 (by decide) ?_
  refine r_iaload C hw.1 hw.2.1 dX12_isBusyTown_22 ?_
  replace hw := hw.2.2
  refine r_icmp_ge C dX12_isBusyTown_23 78 (by decide) (fun hc => ?_) (fun hc => ?_)
  · replace hw := hw.1 hc
    obtain ⟨iv2, eiv2⟩ : ∃ q : Int32, q = xl1 + 1 := ⟨_, rfl⟩
    replace hw := hw iv2 eiv2
    refine r_iinc C dX12_isBusyTown_78 1 rfl (by rw [eiv2]; rfl) [(1, .int iv2), (0, .ref (G.1 + al0)), (2, .int xl2)] (by decide) rfl ?_
    refine r_goto C dX12_isBusyTown_81 2 (by decide) ?_
    refine r_sub [1, 0] rfl ?_
    exact hK2 _ _ _ hw
  · replace hw := hw.2 hc
    refine r_iconst (v := 0) C dX12_isBusyTown_26 (by decide) ?_
    refine r_istore_n C dX12_isBusyTown_27 [(3, .int 0), (0, .ref (G.1 + al0)), (1, .int xl1), (2, .int xl2)] (by decide) rfl ?_
    refine r_sub [1, 2, 3, 0] rfl ?_
    obtain ⟨n, hw⟩ := hw
    exact tl_X12_isBusyTown_28 C hr hK2 hK15 n _ _ _ _ _ hw
def wl_X12_isBusyTown_15 (K2 : AH → Nat → Int32 → Prop) (post : AH → Int32 → Prop) : Nat → AH → Nat → Int32 → Int32 → Prop
  | 0 => fun _ _ _ _ => False
  | n + 1 => fun h al0 xl1 xl2 => wb_X12_isBusyTown_15 K2 (wl_X12_isBusyTown_15 K2 post n) h al0 xl1 xl2 post
theorem tl_X12_isBusyTown_15 {G : GG} {p : Program} {l : Launch} {e : Env} {R : Room} {s : State} {m : MethodId} {args : Array Value} {below : List Frame} {meth : Method} {c : Code} {n0 s0 : Nat} {post : AH → Int32 → Prop} (C : Cx G p R s m args meth c 4 cX12_isBusyTown RX12 n0 s0 2 44) (hr : meth.sig.returnType = (some .boolean)) {K2 : AH → Nat → Int32 → Prop} (hK2 : ∀ (h : AH) (al0 : Nat) (xl1 : Int32), K2 h al0 xl1 → AW G p l e R s m args below meth c 4 (QM G (pI post) args s below n0 s0) 2 [(0, .ref (G.1 + al0)), (1, .int xl1)] [] h) : ∀ (n : Nat) (h : AH) (al0 : Nat) (xl1 : Int32) (xl2 : Int32), wl_X12_isBusyTown_15 K2 post n h al0 xl1 xl2 → AW G p l e R s m args below meth c 4 (QM G (pI post) args s below n0 s0) 15 [(0, .ref (G.1 + al0)), (1, .int xl1), (2, .int xl2)] [] h := by
  intro n
  induction n with
  | zero => intro h al0 xl1 xl2 hw; exact hw.elim
  | succ n ih => intro h al0 xl1 xl2 hw; exact tb_X12_isBusyTown_15 C hr hK2 ih hw
def wb_X12_isBusyTown_2 (K2 : AH → Nat → Int32 → Prop) (h : AH) (al0 : Nat) (xl1 : Int32)  (post : AH → Int32 → Prop) : Prop := (ob h al0 11) ∧ (∃ rv1, aP h al0 6 = some rv1 ∧ ((ob h rv1 13) ∧ ((vp_in 9 (aL h rv1)) ∧ (((aI h rv1 (9 : Int32).toNatClampNeg) ≤ xl1 → (((0 : Int32) = 0 ∨ (0 : Int32) = 1) ∧ post h 0)) ∧ (¬ (aI h rv1 (9 : Int32).toNatClampNeg) ≤ xl1 → (∃ n, wl_X12_isBusyTown_15 K2 post n h al0 xl1 0))))))
set_option maxRecDepth 100000 in
theorem tb_X12_isBusyTown_2 {G : GG} {p : Program} {l : Launch} {e : Env} {R : Room} {s : State} {m : MethodId} {args : Array Value} {below : List Frame} {meth : Method} {c : Code} {n0 s0 : Nat} {post : AH → Int32 → Prop} (C : Cx G p R s m args meth c 4 cX12_isBusyTown RX12 n0 s0 2 44) (hr : meth.sig.returnType = (some .boolean)) {K2 : AH → Nat → Int32 → Prop} (hK2 : ∀ (h : AH) (al0 : Nat) (xl1 : Int32), K2 h al0 xl1 → AW G p l e R s m args below meth c 4 (QM G (pI post) args s below n0 s0) 2 [(0, .ref (G.1 + al0)), (1, .int xl1)] [] h) {h : AH} {al0 : Nat} {xl1 : Int32}  (hw : wb_X12_isBusyTown_2 K2 h al0 xl1 post) : AW G p l e R s m args below meth c 4 (QM G (pI post) args s below n0 s0) 2 [(0, .ref (G.1 + al0)), (1, .int xl1)] [] h := by
  unfold wb_X12_isBusyTown_2 at hw
  refine r_iload_n C dX12_isBusyTown_2 1 rfl ?_
  refine r_aload_n C dX12_isBusyTown_3 0 rfl ?_
  have hob := hw.1
  obtain ⟨rv1, hp, hw⟩ := hw.2
  refine r_getP C fl_RX12_33_11 hob hp (fun _ _ _ => rfl) dX12_isBusyTown_4 ?_
  refine r_bipush (v := 9) C dX12_isBusyTown_7 (by decide) ?_
  refine r_iaload C hw.1 hw.2.1 dX12_isBusyTown_9 ?_
  replace hw := hw.2.2
  refine r_icmp_ge C dX12_isBusyTown_10 84 (by decide) (fun hc => ?_) (fun hc => ?_)
  · replace hw := hw.1 hc
    refine r_iconst (v := 0) C dX12_isBusyTown_84 (by decide) ?_
    exact r_zret C hr dX12_isBusyTown_85 hw.1 hw.2
  · replace hw := hw.2 hc
    refine r_iconst (v := 0) C dX12_isBusyTown_13 (by decide) ?_
    refine r_istore_n C dX12_isBusyTown_14 [(2, .int 0), (0, .ref (G.1 + al0)), (1, .int xl1)] (by decide) rfl ?_
    refine r_sub [1, 2, 0] rfl ?_
    obtain ⟨n, hw⟩ := hw
    exact tl_X12_isBusyTown_15 C hr hK2 n _ _ _ _ hw
def wl_X12_isBusyTown_2  (post : AH → Int32 → Prop) : Nat → AH → Nat → Int32 → Prop
  | 0 => fun _ _ _ => False
  | n + 1 => fun h al0 xl1 => wb_X12_isBusyTown_2  (wl_X12_isBusyTown_2  post n) h al0 xl1 post
theorem tl_X12_isBusyTown_2 {G : GG} {p : Program} {l : Launch} {e : Env} {R : Room} {s : State} {m : MethodId} {args : Array Value} {below : List Frame} {meth : Method} {c : Code} {n0 s0 : Nat} {post : AH → Int32 → Prop} (C : Cx G p R s m args meth c 4 cX12_isBusyTown RX12 n0 s0 2 44) (hr : meth.sig.returnType = (some .boolean))   : ∀ (n : Nat) (h : AH) (al0 : Nat) (xl1 : Int32), wl_X12_isBusyTown_2  post n h al0 xl1 → AW G p l e R s m args below meth c 4 (QM G (pI post) args s below n0 s0) 2 [(0, .ref (G.1 + al0)), (1, .int xl1)] [] h := by
  intro n
  induction n with
  | zero => intro h al0 xl1 hw; exact hw.elim
  | succ n ih => intro h al0 xl1 hw; exact tb_X12_isBusyTown_2 C hr  ih hw
def wp_X12_isBusyTown (h : AH) (a0 : Nat) (post : AH → Int32 → Prop) : Prop := ∃ n, wl_X12_isBusyTown_2  post n h a0 0
set_option maxRecDepth 100000 in
theorem c_X12_isBusyTown (G : GG) (h : AH) (a0 : Nat) (post : AH → Int32 → Prop) (hw : wp_X12_isBusyTown h a0 post) : MC G yX12_isBusyTown cX12_isBusyTown 4 (some .boolean) 2 44 h [.ref (G.1 + a0)] (pI post) := by
  refine MC.of (lv := [(0, .ref (G.1 + a0))]) (by decide) (Nat.le_of_ble_eq_true rfl) rfl fun p l e R s m args below meth c C hr hnm => ?_
  unfold wp_X12_isBusyTown at hw
  refine r_iconst (v := 0) C dX12_isBusyTown_0 (by decide) ?_
  refine r_istore_n C dX12_isBusyTown_1 [(1, .int 0), (0, .ref (G.1 + a0))] (by decide) rfl ?_
  refine r_sub [1, 0] rfl ?_
  obtain ⟨n, hw⟩ := hw
  exact tl_X12_isBusyTown_2 C hr  n _ _ _ hw
theorem dX12_passes_0 : decode cX12_passes 0 = .ok (.iconst 0, 1) := by decide +kernel
theorem dX12_passes_1 : decode cX12_passes 1 = .ok (.istore 4, 2) := by decide +kernel
theorem dX12_passes_3 : decode cX12_passes 3 = .ok (.iload 4, 2) := by decide +kernel
theorem dX12_passes_5 : decode cX12_passes 5 = .ok (.iload_n 1, 1) := by decide +kernel
theorem dX12_passes_6 : decode cX12_passes 6 = .ok (.if_icmp .ge 74, 3) := by decide +kernel
theorem dX12_passes_9 : decode cX12_passes 9 = .ok (.iload_n 3, 1) := by decide +kernel
theorem dX12_passes_10 : decode cX12_passes 10 = .ok (.ifCond .eq 54, 3) := by decide +kernel
theorem dX12_passes_13 : decode cX12_passes 13 = .ok (.iload_n 2, 1) := by decide +kernel
theorem dX12_passes_14 : decode cX12_passes 14 = .ok (.aload_n 0, 1) := by decide +kernel
theorem dX12_passes_15 : decode cX12_passes 15 = .ok (.getfield 374, 3) := by decide +kernel
theorem dX12_passes_18 : decode cX12_passes 18 = .ok (.iadd, 1) := by decide +kernel
theorem dX12_passes_19 : decode cX12_passes 19 = .ok (.bipush 96, 2) := by decide +kernel
theorem dX12_passes_21 : decode cX12_passes 21 = .ok (.irem, 1) := by decide +kernel
theorem dX12_passes_22 : decode cX12_passes 22 = .ok (.bipush 48, 2) := by decide +kernel
theorem dX12_passes_24 : decode cX12_passes 24 = .ok (.bipush 51, 2) := by decide +kernel
theorem dX12_passes_26 : decode cX12_passes 26 = .ok (.invokestatic 196, 3) := by decide +kernel
theorem dX12_passes_29 : decode cX12_passes 29 = .ok (.ifCond .eq 35, 3) := by decide +kernel
theorem dX12_passes_32 : decode cX12_passes 32 = .ok (.aload_n 0, 1) := by decide +kernel
theorem dX12_passes_33 : decode cX12_passes 33 = .ok (.dup, 1) := by decide +kernel
theorem dX12_passes_34 : decode cX12_passes 34 = .ok (.getfield 377, 3) := by decide +kernel
theorem dX12_passes_37 : decode cX12_passes 37 = .ok (.iconst 1, 1) := by decide +kernel
theorem dX12_passes_38 : decode cX12_passes 38 = .ok (.iadd, 1) := by decide +kernel
theorem dX12_passes_39 : decode cX12_passes 39 = .ok (.putfield 377, 3) := by decide +kernel
theorem dX12_passes_42 : decode cX12_passes 42 = .ok (.aload_n 0, 1) := by decide +kernel
theorem dX12_passes_43 : decode cX12_passes 43 = .ok (.aload_n 0, 1) := by decide +kernel
theorem dX12_passes_44 : decode cX12_passes 44 = .ok (.getfield 380, 3) := by decide +kernel
theorem dX12_passes_47 : decode cX12_passes 47 = .ok (.ifCond .ge 10, 3) := by decide +kernel
theorem dX12_passes_50 : decode cX12_passes 50 = .ok (.aload_n 0, 1) := by decide +kernel
theorem dX12_passes_51 : decode cX12_passes 51 = .ok (.getfield 374, 3) := by decide +kernel
theorem dX12_passes_54 : decode cX12_passes 54 = .ok (.goto 7, 3) := by decide +kernel
theorem dX12_passes_57 : decode cX12_passes 57 = .ok (.aload_n 0, 1) := by decide +kernel
theorem dX12_passes_58 : decode cX12_passes 58 = .ok (.getfield 380, 3) := by decide +kernel
theorem dX12_passes_61 : decode cX12_passes 61 = .ok (.putfield 380, 3) := by decide +kernel
theorem dX12_passes_64 : decode cX12_passes 64 = .ok (.aload_n 0, 1) := by decide +kernel
theorem dX12_passes_65 : decode cX12_passes 65 = .ok (.dup, 1) := by decide +kernel
theorem dX12_passes_66 : decode cX12_passes 66 = .ok (.getfield 374, 3) := by decide +kernel
theorem dX12_passes_69 : decode cX12_passes 69 = .ok (.iconst 1, 1) := by decide +kernel
theorem dX12_passes_70 : decode cX12_passes 70 = .ok (.iadd, 1) := by decide +kernel
theorem dX12_passes_71 : decode cX12_passes 71 = .ok (.putfield 374, 3) := by decide +kernel
theorem dX12_passes_74 : decode cX12_passes 74 = .ok (.iinc 4 1, 3) := by decide +kernel
theorem dX12_passes_77 : decode cX12_passes 77 = .ok (.goto (-74), 3) := by decide +kernel
theorem dX12_passes_80 : decode cX12_passes 80 = .ok (.return_, 1) := by decide +kernel
def wb_X12_passes_64 (K3 : AH → Nat → Int32 → Int32 → Int32 → Int32 → Prop) (h : AH) (al0 : Nat) (xl1 : Int32) (xl2 : Int32) (xl3 : Int32) (xl4 : Int32)  (post : AH → Prop) : Prop := (ob h al0 11) ∧ ((ob h al0 11) ∧ (∀ hv1 : AH, hv1 = hI h al0 28 ((aI h al0 28) + (1 : Int32)) → (∀ iv2 : Int32, iv2 = xl4 + 1 → (K3 hv1 al0 xl1 xl2 xl3 iv2))))
set_option maxRecDepth 100000 in
theorem tb_X12_passes_64 {G : GG} {p : Program} {l : Launch} {e : Env} {R : Room} {s : State} {m : MethodId} {args : Array Value} {below : List Frame} {meth : Method} {c : Code} {n0 s0 : Nat} {post : AH → Prop} (C : Cx G p R s m args meth c 5 cX12_passes RX12 n0 s0 1 22) (hr : meth.sig.returnType = none) {K3 : AH → Nat → Int32 → Int32 → Int32 → Int32 → Prop} (hK3 : ∀ (h : AH) (al0 : Nat) (xl1 : Int32) (xl2 : Int32) (xl3 : Int32) (xl4 : Int32), K3 h al0 xl1 xl2 xl3 xl4 → AW G p l e R s m args below meth c 5 (QM G (pV post) args s below n0 s0) 3 [(0, .ref (G.1 + al0)), (1, .int xl1), (2, .int xl2), (3, .int xl3), (4, .int xl4)] [] h) {h : AH} {al0 : Nat} {xl1 : Int32} {xl2 : Int32} {xl3 : Int32} {xl4 : Int32}  (hw : wb_X12_passes_64 K3 h al0 xl1 xl2 xl3 xl4 post) : AW G p l e R s m args below meth c 5 (QM G (pV post) args s below n0 s0) 64 [(0, .ref (G.1 + al0)), (1, .int xl1), (2, .int xl2), (3, .int xl3), (4, .int xl4)] [] h := by
  unfold wb_X12_passes_64 at hw
  refine r_aload_n C dX12_passes_64 0 rfl ?_
  refine r_dup C dX12_passes_65 rfl ?_
  refine r_getI C fl_RX12_374_11 hw.1 (fun _ _ _ => rfl) dX12_passes_66 ?_
  replace hw := hw.2
  refine r_iconst (v := 1) C dX12_passes_69 (by decide) ?_
  refine r_iadd C dX12_passes_70 ?_
  refine r_putI C fp_RX12_374_11 hw.1 rfl dX12_passes_71 ?_
  replace hw := hw.2
  refine r_toph fun hv1 ehv1 => ?_
  replace hw := hw hv1 ehv1
  obtain ⟨iv2, eiv2⟩ : ∃ q : Int32, q = xl4 + 1 := ⟨_, rfl⟩
  replace hw := hw iv2 eiv2
  refine r_iinc C dX12_passes_74 4 rfl (by rw [eiv2]; rfl) [(4, .int iv2), (0, .ref (G.1 + al0)), (1, .int xl1), (2, .int xl2), (3, .int xl3)] (by decide) rfl ?_
  refine r_goto C dX12_passes_77 3 (by decide) ?_
  refine r_sub [1, 2, 3, 4, 0] rfl ?_
  exact hK3 _ _ _ _ _ _ hw
def wb_X12_passes_61 (K3 : AH → Nat → Int32 → Int32 → Int32 → Int32 → Prop) (h : AH) (al0 : Nat) (xl1 : Int32) (xl2 : Int32) (xl3 : Int32) (xl4 : Int32) (xs0 : Int32) (as1 : Nat) (post : AH → Prop) : Prop := (ob h as1 11) ∧ (∀ hv1 : AH, hv1 = hI h as1 30 xs0 → (wb_X12_passes_64 K3 hv1 al0 xl1 xl2 xl3 xl4 post))
set_option maxRecDepth 100000 in
theorem tb_X12_passes_61 {G : GG} {p : Program} {l : Launch} {e : Env} {R : Room} {s : State} {m : MethodId} {args : Array Value} {below : List Frame} {meth : Method} {c : Code} {n0 s0 : Nat} {post : AH → Prop} (C : Cx G p R s m args meth c 5 cX12_passes RX12 n0 s0 1 22) (hr : meth.sig.returnType = none) {K3 : AH → Nat → Int32 → Int32 → Int32 → Int32 → Prop} (hK3 : ∀ (h : AH) (al0 : Nat) (xl1 : Int32) (xl2 : Int32) (xl3 : Int32) (xl4 : Int32), K3 h al0 xl1 xl2 xl3 xl4 → AW G p l e R s m args below meth c 5 (QM G (pV post) args s below n0 s0) 3 [(0, .ref (G.1 + al0)), (1, .int xl1), (2, .int xl2), (3, .int xl3), (4, .int xl4)] [] h) {h : AH} {al0 : Nat} {xl1 : Int32} {xl2 : Int32} {xl3 : Int32} {xl4 : Int32} {xs0 : Int32} {as1 : Nat} (hw : wb_X12_passes_61 K3 h al0 xl1 xl2 xl3 xl4 xs0 as1 post) : AW G p l e R s m args below meth c 5 (QM G (pV post) args s below n0 s0) 61 [(0, .ref (G.1 + al0)), (1, .int xl1), (2, .int xl2), (3, .int xl3), (4, .int xl4)] [.int xs0, .ref (G.1 + as1)] h := by
  unfold wb_X12_passes_61 at hw
  refine r_putI C fp_RX12_380_11 hw.1 rfl dX12_passes_61 ?_
  replace hw := hw.2
  refine r_toph fun hv1 ehv1 => ?_
  replace hw := hw hv1 ehv1
  refine r_sub [0, 1, 2, 3, 4] rfl ?_
  exact tb_X12_passes_64 C hr hK3 hw
def wb_X12_passes_3 (K3 : AH → Nat → Int32 → Int32 → Int32 → Int32 → Prop) (h : AH) (al0 : Nat) (xl1 : Int32) (xl2 : Int32) (xl3 : Int32) (xl4 : Int32)  (post : AH → Prop) : Prop := (xl1 ≤ xl4 → (post h)) ∧ (¬ xl1 ≤ xl4 → ((xl3 = 0 → (wb_X12_passes_64 K3 h al0 xl1 xl2 xl3 xl4 post)) ∧ (¬ xl3 = 0 → ((ob h al0 11) ∧ (wp_X12_isIn h ((xl2 + (aI h al0 28)) - (xl2 + (aI h al0 28)) / 96 * 96) 48 51 (fun hv1 iv2 => (iv2 = 0 → (wb_X12_passes_64 K3 hv1 al0 xl1 xl2 xl3 xl4 post)) ∧ (¬ iv2 = 0 → ((ob hv1 al0 11) ∧ ((ob hv1 al0 11) ∧ (∀ hv3 : AH, hv3 = hI hv1 al0 29 ((aI hv1 al0 29) + (1 : Int32)) → ((ob hv3 al0 11) ∧ ((0 ≤ (aI hv3 al0 30) → ((ob hv3 al0 11) ∧ (wb_X12_passes_61 K3 hv3 al0 xl1 xl2 xl3 xl4 (aI hv3 al0 30) al0 post))) ∧ (¬ 0 ≤ (aI hv3 al0 30) → ((ob hv3 al0 11) ∧ (wb_X12_passes_61 K3 hv3 al0 xl1 xl2 xl3 xl4 (aI hv3 al0 28) al0 post)))))))))))))))
set_option maxRecDepth 100000 in
theorem tb_X12_passes_3 {G : GG} {p : Program} {l : Launch} {e : Env} {R : Room} {s : State} {m : MethodId} {args : Array Value} {below : List Frame} {meth : Method} {c : Code} {n0 s0 : Nat} {post : AH → Prop} (C : Cx G p R s m args meth c 5 cX12_passes RX12 n0 s0 1 22) (hr : meth.sig.returnType = none) {K3 : AH → Nat → Int32 → Int32 → Int32 → Int32 → Prop} (hK3 : ∀ (h : AH) (al0 : Nat) (xl1 : Int32) (xl2 : Int32) (xl3 : Int32) (xl4 : Int32), K3 h al0 xl1 xl2 xl3 xl4 → AW G p l e R s m args below meth c 5 (QM G (pV post) args s below n0 s0) 3 [(0, .ref (G.1 + al0)), (1, .int xl1), (2, .int xl2), (3, .int xl3), (4, .int xl4)] [] h) {h : AH} {al0 : Nat} {xl1 : Int32} {xl2 : Int32} {xl3 : Int32} {xl4 : Int32}  (hw : wb_X12_passes_3 K3 h al0 xl1 xl2 xl3 xl4 post) : AW G p l e R s m args below meth c 5 (QM G (pV post) args s below n0 s0) 3 [(0, .ref (G.1 + al0)), (1, .int xl1), (2, .int xl2), (3, .int xl3), (4, .int xl4)] [] h := by
  unfold wb_X12_passes_3 at hw
  refine r_iload C dX12_passes_3 4 rfl ?_
  refine r_iload_n C dX12_passes_5 1 rfl ?_
  refine r_icmp_ge C dX12_passes_6 80 (by decide) (fun hc => ?_) (fun hc => ?_)
  · replace hw := hw.1 hc
    exact r_vret C hr dX12_passes_80 hw
  · replace hw := hw.2 hc
    refine r_iload_n C dX12_passes_9 3 rfl ?_
    refine r_if_eq C dX12_passes_10 64 (by decide) (fun hc => ?_) (fun hc => ?_)
    · replace hw := hw.1 hc
      refine r_sub [0, 1, 2, 3, 4] rfl ?_
      exact tb_X12_passes_64 C hr hK3 hw
    · replace hw := hw.2 hc
      refine r_iload_n C dX12_passes_13 2 rfl ?_
      refine r_aload_n C dX12_passes_14 0 rfl ?_
      refine r_getI C fl_RX12_374_11 hw.1 (fun _ _ _ => rfl) dX12_passes_15 ?_
      replace hw := hw.2
      refine r_iadd C dX12_passes_18 ?_
      refine r_bipush (v := 96) C dX12_passes_19 (by decide) ?_
      refine r_irem C dX12_passes_21 (by decide) ?_
      refine r_bipush (v := 48) C dX12_passes_22 (by decide) ?_
      refine r_bipush (v := 51) C dX12_passes_24 (by decide) ?_
      refine r_callS C (As := [.int ((xl2 + (aI h al0 28)) - (xl2 + (aI h al0 28)) / 96 * 96), .int 48, .int 51]) (rest := []) (c_X12_isIn G h ((xl2 + (aI h al0 28)) - (xl2 + (aI h al0 28)) / 96 * 96) 48 51 _ hw) yl_X12_isIn (gm7 (List.mem_of_getElem? (i := 189) rfl) rfl) (gm7 (List.mem_of_getElem? (i := 190) rfl) rfl) (by decide) rfl (Nat.le_of_ble_eq_true rfl) dX12_passes_26 rfl (kI fun hv1 iv2 hw => ?_)
      refine r_if_eq C dX12_passes_29 64 (by decide) (fun hc => ?_) (fun hc => ?_)
      · replace hw := hw.1 hc
        refine r_sub [0, 1, 2, 3, 4] rfl ?_
        exact tb_X12_passes_64 C hr hK3 hw
      · replace hw := hw.2 hc
        refine r_aload_n C dX12_passes_32 0 rfl ?_
        refine r_dup C dX12_passes_33 rfl ?_
        refine r_getI C fl_RX12_377_11 hw.1 (fun _ _ _ => rfl) dX12_passes_34 ?_
        replace hw := hw.2
        refine r_iconst (v := 1) C dX12_passes_37 (by decide) ?_
        refine r_iadd C dX12_passes_38 ?_
        refine r_putI C fp_RX12_377_11 hw.1 rfl dX12_passes_39 ?_
        replace hw := hw.2
        refine r_toph fun hv3 ehv3 => ?_
        replace hw := hw hv3 ehv3
        refine r_aload_n C dX12_passes_42 0 rfl ?_
        refine r_aload_n C dX12_passes_43 0 rfl ?_
        refine r_getI C fl_RX12_380_11 hw.1 (fun _ _ _ => rfl) dX12_passes_44 ?_
        replace hw := hw.2
        refine r_if_ge C dX12_passes_47 57 (by decide) (fun hc => ?_) (fun hc => ?_)
        · replace hw := hw.1 hc
          refine r_aload_n C dX12_passes_57 0 rfl ?_
          refine r_getI C fl_RX12_380_11 hw.1 (fun _ _ _ => rfl) dX12_passes_58 ?_
          replace hw := hw.2
          refine r_sub [0, 1, 2, 3, 4] rfl ?_
          exact tb_X12_passes_61 C hr hK3 hw
        · replace hw := hw.2 hc
          refine r_aload_n C dX12_passes_50 0 rfl ?_
          refine r_getI C fl_RX12_374_11 hw.1 (fun _ _ _ => rfl) dX12_passes_51 ?_
          replace hw := hw.2
          refine r_goto C dX12_passes_54 61 (by decide) ?_
          refine r_sub [0, 1, 2, 3, 4] rfl ?_
          exact tb_X12_passes_61 C hr hK3 hw
def wl_X12_passes_3  (post : AH → Prop) : Nat → AH → Nat → Int32 → Int32 → Int32 → Int32 → Prop
  | 0 => fun _ _ _ _ _ _ => False
  | n + 1 => fun h al0 xl1 xl2 xl3 xl4 => wb_X12_passes_3  (wl_X12_passes_3  post n) h al0 xl1 xl2 xl3 xl4 post
theorem tl_X12_passes_3 {G : GG} {p : Program} {l : Launch} {e : Env} {R : Room} {s : State} {m : MethodId} {args : Array Value} {below : List Frame} {meth : Method} {c : Code} {n0 s0 : Nat} {post : AH → Prop} (C : Cx G p R s m args meth c 5 cX12_passes RX12 n0 s0 1 22) (hr : meth.sig.returnType = none)   : ∀ (n : Nat) (h : AH) (al0 : Nat) (xl1 : Int32) (xl2 : Int32) (xl3 : Int32) (xl4 : Int32), wl_X12_passes_3  post n h al0 xl1 xl2 xl3 xl4 → AW G p l e R s m args below meth c 5 (QM G (pV post) args s below n0 s0) 3 [(0, .ref (G.1 + al0)), (1, .int xl1), (2, .int xl2), (3, .int xl3), (4, .int xl4)] [] h := by
  intro n
  induction n with
  | zero => intro h al0 xl1 xl2 xl3 xl4 hw; exact hw.elim
  | succ n ih => intro h al0 xl1 xl2 xl3 xl4 hw; exact tb_X12_passes_3 C hr  ih hw
def wp_X12_passes (h : AH) (a0 : Nat) (x1 : Int32) (x2 : Int32) (x3 : Int32) (post : AH → Prop) : Prop := ∃ n, wl_X12_passes_3  post n h a0 x1 x2 x3 0
set_option maxRecDepth 100000 in
theorem c_X12_passes (G : GG) (h : AH) (a0 : Nat) (x1 : Int32) (x2 : Int32) (x3 : Int32) (post : AH → Prop) (hw : wp_X12_passes h a0 x1 x2 x3 post) : MC G yX12_passes cX12_passes 5 none 1 22 h [.ref (G.1 + a0), .int x1, .int x2, .int x3] (pV post) := by
  refine MC.of (lv := [(0, .ref (G.1 + a0)), (1, .int x1), (2, .int x2), (3, .int x3)]) (by decide) (Nat.le_of_ble_eq_true rfl) rfl fun p l e R s m args below meth c C hr hnm => ?_
  unfold wp_X12_passes at hw
  refine r_iconst (v := 0) C dX12_passes_0 (by decide) ?_
  refine r_istore C dX12_passes_1 [(4, .int 0), (0, .ref (G.1 + a0)), (1, .int x1), (2, .int x2), (3, .int x3)] (by decide) rfl ?_
  refine r_sub [1, 2, 3, 4, 0] rfl ?_
  obtain ⟨n, hw⟩ := hw
  exact tl_X12_passes_3 C hr  n _ _ _ _ _ _ hw
theorem dX12_run_0 : decode cX12_run 0 = .ok (.aload_n 0, 1) := by decide +kernel
theorem dX12_run_1 : decode cX12_run 1 = .ok (.invokevirtual 317, 3) := by decide +kernel
theorem dX12_run_4 : decode cX12_run 4 = .ok (.aload_n 0, 1) := by decide +kernel
theorem dX12_run_5 : decode cX12_run 5 = .ok (.iconst 0, 1) := by decide +kernel
theorem dX12_run_6 : decode cX12_run 6 = .ok (.putfield 374, 3) := by decide +kernel
theorem dX12_run_9 : decode cX12_run 9 = .ok (.aload_n 0, 1) := by decide +kernel
theorem dX12_run_10 : decode cX12_run 10 = .ok (.iconst 0, 1) := by decide +kernel
theorem dX12_run_11 : decode cX12_run 11 = .ok (.putfield 377, 3) := by decide +kernel
theorem dX12_run_14 : decode cX12_run 14 = .ok (.aload_n 0, 1) := by decide +kernel
theorem dX12_run_15 : decode cX12_run 15 = .ok (.iconst (-1), 1) := by decide +kernel
theorem dX12_run_16 : decode cX12_run 16 = .ok (.putfield 380, 3) := by decide +kernel
theorem dX12_run_19 : decode cX12_run 19 = .ok (.aload_n 0, 1) := by decide +kernel
theorem dX12_run_20 : decode cX12_run 20 = .ok (.iconst 0, 1) := by decide +kernel
theorem dX12_run_21 : decode cX12_run 21 = .ok (.putfield 383, 3) := by decide +kernel
theorem dX12_run_24 : decode cX12_run 24 = .ok (.iconst 0, 1) := by decide +kernel
theorem dX12_run_25 : decode cX12_run 25 = .ok (.istore 4, 2) := by decide +kernel
theorem dX12_run_27 : decode cX12_run 27 = .ok (.iload 4, 2) := by decide +kernel
theorem dX12_run_29 : decode cX12_run 29 = .ok (.aload_n 0, 1) := by decide +kernel
theorem dX12_run_30 : decode cX12_run 30 = .ok (.getfield 33, 3) := by decide +kernel
theorem dX12_run_33 : decode cX12_run 33 = .ok (.sipush 249, 3) := by decide +kernel
theorem dX12_run_36 : decode cX12_run 36 = .ok (.iaload, 1) := by decide +kernel
theorem dX12_run_37 : decode cX12_run 37 = .ok (.if_icmp .ge 129, 3) := by decide +kernel
theorem dX12_run_40 : decode cX12_run 40 = .ok (.iload 4, 2) := by decide +kernel
theorem dX12_run_42 : decode cX12_run 42 = .ok (.iload_n 2, 1) := by decide +kernel
theorem dX12_run_43 : decode cX12_run 43 = .ok (.if_icmp .ne 10, 3) := by decide +kernel
theorem dX12_run_46 : decode cX12_run 46 = .ok (.iload_n 3, 1) := by decide +kernel
theorem dX12_run_47 : decode cX12_run 47 = .ok (.ifCond .ge 6, 3) := by decide +kernel
theorem dX12_run_50 : decode cX12_run 50 = .ok (.goto 110, 3) := by decide +kernel
theorem dX12_run_53 : decode cX12_run 53 = .ok (.iload 4, 2) := by decide +kernel
theorem dX12_run_55 : decode cX12_run 55 = .ok (.iload_n 2, 1) := by decide +kernel
theorem dX12_run_56 : decode cX12_run 56 = .ok (.if_icmp .ne 7, 3) := by decide +kernel
theorem dX12_run_59 : decode cX12_run 59 = .ok (.iload_n 3, 1) := by decide +kernel
theorem dX12_run_60 : decode cX12_run 60 = .ok (.goto 16, 3) := by decide +kernel
theorem dX12_run_63 : decode cX12_run 63 = .ok (.aload_n 0, 1) := by decide +kernel
theorem dX12_run_64 : decode cX12_run 64 = .ok (.getfield 33, 3) := by decide +kernel
theorem dX12_run_67 : decode cX12_run 67 = .ok (.sipush 250, 3) := by decide +kernel
theorem dX12_run_70 : decode cX12_run 70 = .ok (.iconst 2, 1) := by decide +kernel
theorem dX12_run_71 : decode cX12_run 71 = .ok (.iload 4, 2) := by decide +kernel
theorem dX12_run_73 : decode cX12_run 73 = .ok (.imul, 1) := by decide +kernel
theorem dX12_run_74 : decode cX12_run 74 = .ok (.iadd, 1) := by decide +kernel
theorem dX12_run_75 : decode cX12_run 75 = .ok (.iaload, 1) := by decide +kernel
theorem dX12_run_76 : decode cX12_run 76 = .ok (.istore 5, 2) := by decide +kernel
theorem dX12_run_78 : decode cX12_run 78 = .ok (.aload_n 0, 1) := by decide +kernel
theorem dX12_run_79 : decode cX12_run 79 = .ok (.getfield 33, 3) := by decide +kernel
theorem dX12_run_82 : decode cX12_run 82 = .ok (.sipush 250, 3) := by decide +kernel
theorem dX12_run_85 : decode cX12_run 85 = .ok (.iconst 2, 1) := by decide +kernel
theorem dX12_run_86 : decode cX12_run 86 = .ok (.iload 4, 2) := by decide +kernel
theorem dX12_run_88 : decode cX12_run 88 = .ok (.imul, 1) := by decide +kernel
theorem dX12_run_89 : decode cX12_run 89 = .ok (.iadd, 1) := by decide +kernel
theorem dX12_run_90 : decode cX12_run 90 = .ok (.iconst 1, 1) := by decide +kernel
theorem dX12_run_91 : decode cX12_run 91 = .ok (.iadd, 1) := by decide +kernel
theorem dX12_run_92 : decode cX12_run 92 = .ok (.iaload, 1) := by decide +kernel
theorem dX12_run_93 : decode cX12_run 93 = .ok (.istore 6, 2) := by decide +kernel
theorem dX12_run_95 : decode cX12_run 95 = .ok (.aload_n 0, 1) := by decide +kernel
theorem dX12_run_96 : decode cX12_run 96 = .ok (.invokevirtual 386, 3) := by decide +kernel
theorem dX12_run_99 : decode cX12_run 99 = .ok (.istore 7, 2) := by decide +kernel
theorem dX12_run_101 : decode cX12_run 101 = .ok (.iload 5, 2) := by decide +kernel
theorem dX12_run_103 : decode cX12_run 103 = .ok (.iconst 5, 1) := by decide +kernel
theorem dX12_run_104 : decode cX12_run 104 = .ok (.if_icmp .ne 15, 3) := by decide +kernel
theorem dX12_run_107 : decode cX12_run 107 = .ok (.aload_n 0, 1) := by decide +kernel
theorem dX12_run_108 : decode cX12_run 108 = .ok (.iload 6, 2) := by decide +kernel
theorem dX12_run_110 : decode cX12_run 110 = .ok (.iload_n 1, 1) := by decide +kernel
theorem dX12_run_111 : decode cX12_run 111 = .ok (.iload 7, 2) := by decide +kernel
theorem dX12_run_113 : decode cX12_run 113 = .ok (.invokevirtual 389, 3) := by decide +kernel
theorem dX12_run_116 : decode cX12_run 116 = .ok (.goto 44, 3) := by decide +kernel
theorem dX12_run_119 : decode cX12_run 119 = .ok (.aload_n 0, 1) := by decide +kernel
theorem dX12_run_120 : decode cX12_run 120 = .ok (.aload_n 0, 1) := by decide +kernel
theorem dX12_run_121 : decode cX12_run 121 = .ok (.iload 6, 2) := by decide +kernel
theorem dX12_run_123 : decode cX12_run 123 = .ok (.iload 5, 2) := by decide +kernel
theorem dX12_run_125 : decode cX12_run 125 = .ok (.iload_n 1, 1) := by decide +kernel
theorem dX12_run_126 : decode cX12_run 126 = .ok (.aload_n 0, 1) := by decide +kernel
theorem dX12_run_127 : decode cX12_run 127 = .ok (.getfield 374, 3) := by decide +kernel
theorem dX12_run_130 : decode cX12_run 130 = .ok (.iadd, 1) := by decide +kernel
theorem dX12_run_131 : decode cX12_run 131 = .ok (.iconst 4, 1) := by decide +kernel
theorem dX12_run_132 : decode cX12_run 132 = .ok (.idiv, 1) := by decide +kernel
theorem dX12_run_133 : decode cX12_run 133 = .ok (.bipush 24, 2) := by decide +kernel
theorem dX12_run_135 : decode cX12_run 135 = .ok (.irem, 1) := by decide +kernel
theorem dX12_run_136 : decode cX12_run 136 = .ok (.invokevirtual 350, 3) := by decide +kernel
theorem dX12_run_139 : decode cX12_run 139 = .ok (.putfield 383, 3) := by decide +kernel
theorem dX12_run_142 : decode cX12_run 142 = .ok (.aload_n 0, 1) := by decide +kernel
theorem dX12_run_143 : decode cX12_run 143 = .ok (.getfield 383, 3) := by decide +kernel
theorem dX12_run_146 : decode cX12_run 146 = .ok (.ifCond .le 6, 3) := by decide +kernel
theorem dX12_run_149 : decode cX12_run 149 = .ok (.iload 4, 2) := by decide +kernel
theorem dX12_run_151 : decode cX12_run 151 = .ok (.ireturn, 1) := by decide +kernel
theorem dX12_run_152 : decode cX12_run 152 = .ok (.aload_n 0, 1) := by decide +kernel
theorem dX12_run_153 : decode cX12_run 153 = .ok (.iconst 1, 1) := by decide +kernel
theorem dX12_run_154 : decode cX12_run 154 = .ok (.iload_n 1, 1) := by decide +kernel
theorem dX12_run_155 : decode cX12_run 155 = .ok (.iload 7, 2) := by decide +kernel
theorem dX12_run_157 : decode cX12_run 157 = .ok (.invokevirtual 389, 3) := by decide +kernel
theorem dX12_run_160 : decode cX12_run 160 = .ok (.iinc 4 1, 3) := by decide +kernel
theorem dX12_run_163 : decode cX12_run 163 = .ok (.goto (-136), 3) := by decide +kernel
theorem dX12_run_166 : decode cX12_run 166 = .ok (.iconst (-1), 1) := by decide +kernel
theorem dX12_run_167 : decode cX12_run 167 = .ok (.ireturn, 1) := by decide +kernel
def wb_X12_run_160 (K27 : AH → Nat → Int32 → Int32 → Int32 → Int32 → Prop) (h : AH) (al0 : Nat) (xl1 : Int32) (xl2 : Int32) (xl3 : Int32) (xl4 : Int32)  (post : AH → Int32 → Prop) : Prop := ∀ iv1 : Int32, iv1 = xl4 + 1 → (K27 h al0 xl1 xl2 xl3 iv1)
set_option maxRecDepth 100000 in
theorem tb_X12_run_160 {G : GG} {p : Program} {l : Launch} {e : Env} {R : Room} {s : State} {m : MethodId} {args : Array Value} {below : List Frame} {meth : Method} {c : Code} {n0 s0 : Nat} {post : AH → Int32 → Prop} (C : Cx G p R s m args meth c 8 cX12_run RX12 n0 s0 4 98) (hr : meth.sig.returnType = (some .int)) {K27 : AH → Nat → Int32 → Int32 → Int32 → Int32 → Prop} (hK27 : ∀ (h : AH) (al0 : Nat) (xl1 : Int32) (xl2 : Int32) (xl3 : Int32) (xl4 : Int32), K27 h al0 xl1 xl2 xl3 xl4 → AW G p l e R s m args below meth c 8 (QM G (pI post) args s below n0 s0) 27 [(0, .ref (G.1 + al0)), (1, .int xl1), (2, .int xl2), (3, .int xl3), (4, .int xl4)] [] h) {h : AH} {al0 : Nat} {xl1 : Int32} {xl2 : Int32} {xl3 : Int32} {xl4 : Int32}  (hw : wb_X12_run_160 K27 h al0 xl1 xl2 xl3 xl4 post) : AW G p l e R s m args below meth c 8 (QM G (pI post) args s below n0 s0) 160 [(0, .ref (G.1 + al0)), (1, .int xl1), (2, .int xl2), (3, .int xl3), (4, .int xl4)] [] h := by
  unfold wb_X12_run_160 at hw
  obtain ⟨iv1, eiv1⟩ : ∃ q : Int32, q = xl4 + 1 := ⟨_, rfl⟩
  replace hw := hw iv1 eiv1
  refine r_iinc C dX12_run_160 4 rfl (by rw [eiv1]; rfl) [(4, .int iv1), (0, .ref (G.1 + al0)), (1, .int xl1), (2, .int xl2), (3, .int xl3)] (by decide) rfl ?_
  refine r_goto C dX12_run_163 27 (by decide) ?_
  refine r_sub [1, 2, 3, 4, 0] rfl ?_
  exact hK27 _ _ _ _ _ _ hw
def wb_X12_run_76 (K27 : AH → Nat → Int32 → Int32 → Int32 → Int32 → Prop) (h : AH) (al0 : Nat) (xl1 : Int32) (xl2 : Int32) (xl3 : Int32) (xl4 : Int32) (xs0 : Int32) (post : AH → Int32 → Prop) : Prop := (ob h al0 11) ∧ (∃ rv1, aP h al0 6 = some rv1 ∧ ((ob h rv1 13) ∧ ((vp_in (((250 : Int32) + ((2 : Int32) * xl4)) + (1 : Int32)) (aL h rv1)) ∧ (∀ iv2 : Int32, iv2 = aI h rv1 (((250 : Int32) + ((2 : Int32) * xl4)) + (1 : Int32)).toNatClampNeg → ((ob h al0 11) ∧ wp_X12_isBusyTown h al0  (fun hv3 iv4 => (¬ xs0 = 5 → ((ob hv3 al0 11) ∧ ((ob hv3 al0 11) ∧ wp_X12_moves hv3 al0 iv2 xs0 (((xl1 + (aI hv3 al0 28)) / 4) - ((xl1 + (aI hv3 al0 28)) / 4) / 24 * 24) (fun hv5 iv6 => (ob hv5 al0 11) ∧ (∀ hv7 : AH, hv7 = hI hv5 al0 31 iv6 → ((ob hv7 al0 11) ∧ (((aI hv7 al0 31) ≤ 0 → ((ob hv7 al0 11) ∧ wp_X12_passes hv7 al0 1 xl1 iv4 (fun hv8  => wb_X12_run_160 K27 hv8 al0 xl1 xl2 xl3 xl4 post))) ∧ (¬ (aI hv7 al0 31) ≤ 0 → (post hv7 xl4))))))))) ∧ (xs0 = 5 → ((ob hv3 al0 11) ∧ wp_X12_passes hv3 al0 iv2 xl1 iv4 (fun hv9  => wb_X12_run_160 K27 hv9 al0 xl1 xl2 xl3 xl4 post)))))))))
set_option maxRecDepth 100000 in
theorem tb_X12_run_76 {G : GG} {p : Program} {l : Launch} {e : Env} {R : Room} {s : State} {m : MethodId} {args : Array Value} {below : List Frame} {meth : Method} {c : Code} {n0 s0 : Nat} {post : AH → Int32 → Prop} (C : Cx G p R s m args meth c 8 cX12_run RX12 n0 s0 4 98) (hr : meth.sig.returnType = (some .int)) {K27 : AH → Nat → Int32 → Int32 → Int32 → Int32 → Prop} (hK27 : ∀ (h : AH) (al0 : Nat) (xl1 : Int32) (xl2 : Int32) (xl3 : Int32) (xl4 : Int32), K27 h al0 xl1 xl2 xl3 xl4 → AW G p l e R s m args below meth c 8 (QM G (pI post) args s below n0 s0) 27 [(0, .ref (G.1 + al0)), (1, .int xl1), (2, .int xl2), (3, .int xl3), (4, .int xl4)] [] h) {h : AH} {al0 : Nat} {xl1 : Int32} {xl2 : Int32} {xl3 : Int32} {xl4 : Int32} {xs0 : Int32} (hw : wb_X12_run_76 K27 h al0 xl1 xl2 xl3 xl4 xs0 post) : AW G p l e R s m args below meth c 8 (QM G (pI post) args s below n0 s0) 76 [(0, .ref (G.1 + al0)), (1, .int xl1), (2, .int xl2), (3, .int xl3), (4, .int xl4)] [.int xs0] h := by
  unfold wb_X12_run_76 at hw
  refine r_istore C dX12_run_76 [(5, .int xs0), (0, .ref (G.1 + al0)), (1, .int xl1), (2, .int xl2), (3, .int xl3), (4, .int xl4)] (by decide) rfl ?_
  refine r_aload_n C dX12_run_78 1 rfl ?_
  have hob := hw.1
  obtain ⟨rv1, hp, hw⟩ := hw.2
  refine r_getP C fl_RX12_33_11 hob hp (fun _ _ _ => rfl) dX12_run_79 ?_
  refine r_sipush (v := 250) C dX12_run_82 (by decide) ?_
  refine r_iconst (v := 2) C dX12_run_85 (by decide) ?_
  refine r_iload C dX12_run_86 5 rfl ?_
  refine r_imul C dX12_run_88 ?_
  refine r_iadd C dX12_run_89 ?_
  refine r_iconst (v := 1) C dX12_run_90 (by decide) ?_
  refine r_iadd C dX12_run_91 ?_
  refine r_iaload C hw.1 hw.2.1 dX12_run_92 ?_
  replace hw := hw.2.2
  refine r_topi fun iv2 eiv2 => ?_
  replace hw := hw iv2 eiv2
  refine r_istore C dX12_run_93 [(6, .int iv2), (5, .int xs0), (0, .ref (G.1 + al0)), (1, .int xl1), (2, .int xl2), (3, .int xl3), (4, .int xl4)] (by decide) rfl ?_
  refine r_aload_n C dX12_run_95 2 rfl ?_
  have hob := hw.1
  replace hw := hw.2
  refine r_callV C (As := []) (rest := []) (c_X12_isBusyTown G h al0  _ hw) yl_X12_isBusyTown (gm8 (List.mem_of_getElem? (i := 184) rfl) rfl) (gm8 (List.mem_of_getElem? (i := 186) rfl) rfl) (ci := 11) rfl (by decide) (gsel (List.mem_of_getElem? (i := 90) rfl)) hob (by decide) rfl (Nat.le_of_ble_eq_true rfl) dX12_run_96 rfl (kI fun hv3 iv4 hw => ?_)
  refine r_istore C dX12_run_99 [(7, .int iv4), (6, .int iv2), (5, .int xs0), (0, .ref (G.1 + al0)), (1, .int xl1), (2, .int xl2), (3, .int xl3), (4, .int xl4)] (by decide) rfl ?_
  refine r_iload C dX12_run_101 2 rfl ?_
  refine r_iconst (v := 5) C dX12_run_103 (by decide) ?_
  refine r_icmp_ne C dX12_run_104 119 (by decide) (fun hc => ?_) (fun hc => ?_)
  · replace hw := hw.1 hc
    refine r_aload_n C dX12_run_119 3 rfl ?_
    refine r_aload_n C dX12_run_120 3 rfl ?_
    refine r_iload C dX12_run_121 1 rfl ?_
    refine r_iload C dX12_run_123 2 rfl ?_
    refine r_iload_n C dX12_run_125 4 rfl ?_
    refine r_aload_n C dX12_run_126 3 rfl ?_
    refine r_getI C fl_RX12_374_11 hw.1 (fun _ _ _ => rfl) dX12_run_127 ?_
    replace hw := hw.2
    refine r_iadd C dX12_run_130 ?_
    refine r_iconst (v := 4) C dX12_run_131 (by decide) ?_
    refine r_idiv C dX12_run_132 (by decide) ?_
    refine r_bipush (v := 24) C dX12_run_133 (by decide) ?_
    refine r_irem C dX12_run_135 (by decide) ?_
    have hob := hw.1
    replace hw := hw.2
    refine r_callV C (As := [.int iv2, .int xs0, .int (((xl1 + (aI hv3 al0 28)) / 4) - ((xl1 + (aI hv3 al0 28)) / 4) / 24 * 24)]) (rest := [.ref (G.1 + al0)]) (c_X12_moves G hv3 al0 iv2 xs0 (((xl1 + (aI hv3 al0 28)) / 4) - ((xl1 + (aI hv3 al0 28)) / 4) / 24 * 24) _ hw) yl_X12_moves (gm8 (List.mem_of_getElem? (i := 125) rfl) rfl) (gm8 (List.mem_of_getElem? (i := 127) rfl) rfl) (ci := 11) rfl (by decide) (gsel (List.mem_of_getElem? (i := 80) rfl)) hob (by decide) rfl (Nat.le_of_ble_eq_true rfl) dX12_run_136 rfl (kI fun hv5 iv6 hw => ?_)
    refine r_putI C fp_RX12_383_11 hw.1 rfl dX12_run_139 ?_
    replace hw := hw.2
    refine r_toph fun hv7 ehv7 => ?_
    replace hw := hw hv7 ehv7
    refine r_aload_n C dX12_run_142 3 rfl ?_
    refine r_getI C fl_RX12_383_11 hw.1 (fun _ _ _ => rfl) dX12_run_143 ?_
    replace hw := hw.2
    refine r_if_le C dX12_run_146 152 (by decide) (fun hc => ?_) (fun hc => ?_)
    · replace hw := hw.1 hc
      refine r_aload_n C dX12_run_152 3 rfl ?_
      refine r_iconst (v := 1) C dX12_run_153 (by decide) ?_
      refine r_iload_n C dX12_run_154 4 rfl ?_
      refine r_iload C dX12_run_155 0 rfl ?_
      have hob := hw.1
      replace hw := hw.2
      refine r_callV C (As := [.int 1, .int xl1, .int iv4]) (rest := []) (c_X12_passes G hv7 al0 1 xl1 iv4 _ hw) yl_X12_passes (gm8 (List.mem_of_getElem? (i := 188) rfl) rfl) (gm8 (List.mem_of_getElem? (i := 190) rfl) rfl) (ci := 11) rfl (by decide) (gsel (List.mem_of_getElem? (i := 91) rfl)) hob (by decide) rfl (Nat.le_of_ble_eq_true rfl) dX12_run_157 rfl (kV fun hv8  hw => ?_)
      refine r_sub [3, 4, 5, 6, 7] rfl ?_
      exact tb_X12_run_160 C hr hK27 hw
    · replace hw := hw.2 hc
      refine r_iload C dX12_run_149 7 rfl ?_
      exact r_iret C hr dX12_run_151 hw
  · replace hw := hw.2 hc
    refine r_aload_n C dX12_run_107 3 rfl ?_
    refine r_iload C dX12_run_108 1 rfl ?_
    refine r_iload_n C dX12_run_110 4 rfl ?_
    refine r_iload C dX12_run_111 0 rfl ?_
    have hob := hw.1
    replace hw := hw.2
    refine r_callV C (As := [.int iv2, .int xl1, .int iv4]) (rest := []) (c_X12_passes G hv3 al0 iv2 xl1 iv4 _ hw) yl_X12_passes (gm8 (List.mem_of_getElem? (i := 188) rfl) rfl) (gm8 (List.mem_of_getElem? (i := 190) rfl) rfl) (ci := 11) rfl (by decide) (gsel (List.mem_of_getElem? (i := 91) rfl)) hob (by decide) rfl (Nat.le_of_ble_eq_true rfl) dX12_run_113 rfl (kV fun hv9  hw => ?_)
    refine r_goto C dX12_run_116 160 (by decide) ?_
    refine r_sub [3, 4, 5, 6, 7] rfl ?_
    exact tb_X12_run_160 C hr hK27 hw
def wb_X12_run_53 (K27 : AH → Nat → Int32 → Int32 → Int32 → Int32 → Prop) (h : AH) (al0 : Nat) (xl1 : Int32) (xl2 : Int32) (xl3 : Int32) (xl4 : Int32)  (post : AH → Int32 → Prop) : Prop := (¬ xl4 = xl2 → ((ob h al0 11) ∧ (∃ rv1, aP h al0 6 = some rv1 ∧ ((ob h rv1 13) ∧ ((vp_in ((250 : Int32) + ((2 : Int32) * xl4)) (aL h rv1)) ∧ (wb_X12_run_76 K27 h al0 xl1 xl2 xl3 xl4 (aI h rv1 ((250 : Int32) + ((2 : Int32) * xl4)).toNatClampNeg) post)))))) ∧ (xl4 = xl2 → (wb_X12_run_76 K27 h al0 xl1 xl2 xl3 xl4 xl3 post))
set_option maxRecDepth 100000 in
theorem tb_X12_run_53 {G : GG} {p : Program} {l : Launch} {e : Env} {R : Room} {s : State} {m : MethodId} {args : Array Value} {below : List Frame} {meth : Method} {c : Code} {n0 s0 : Nat} {post : AH → Int32 → Prop} (C : Cx G p R s m args meth c 8 cX12_run RX12 n0 s0 4 98) (hr : meth.sig.returnType = (some .int)) {K27 : AH → Nat → Int32 → Int32 → Int32 → Int32 → Prop} (hK27 : ∀ (h : AH) (al0 : Nat) (xl1 : Int32) (xl2 : Int32) (xl3 : Int32) (xl4 : Int32), K27 h al0 xl1 xl2 xl3 xl4 → AW G p l e R s m args below meth c 8 (QM G (pI post) args s below n0 s0) 27 [(0, .ref (G.1 + al0)), (1, .int xl1), (2, .int xl2), (3, .int xl3), (4, .int xl4)] [] h) {h : AH} {al0 : Nat} {xl1 : Int32} {xl2 : Int32} {xl3 : Int32} {xl4 : Int32}  (hw : wb_X12_run_53 K27 h al0 xl1 xl2 xl3 xl4 post) : AW G p l e R s m args below meth c 8 (QM G (pI post) args s below n0 s0) 53 [(0, .ref (G.1 + al0)), (1, .int xl1), (2, .int xl2), (3, .int xl3), (4, .int xl4)] [] h := by
  unfold wb_X12_run_53 at hw
  refine r_iload C dX12_run_53 4 rfl ?_
  refine r_iload_n C dX12_run_55 2 rfl ?_
  refine r_icmp_ne C dX12_run_56 63 (by decide) (fun hc => ?_) (fun hc => ?_)
  · replace hw := hw.1 hc
    refine r_aload_n C dX12_run_63 0 rfl ?_
    have hob := hw.1
    obtain ⟨rv1, hp, hw⟩ := hw.2
    refine r_getP C fl_RX12_33_11 hob hp (fun _ _ _ => rfl) dX12_run_64 ?_
    refine r_sipush (v := 250) C dX12_run_67 (by decide) ?_
    refine r_iconst (v := 2) C dX12_run_70 (by decide) ?_
    refine r_iload C dX12_run_71 4 rfl ?_
    refine r_imul C dX12_run_73 ?_
    refine r_iadd C dX12_run_74 ?_
    refine r_iaload C hw.1 hw.2.1 dX12_run_75 ?_
    replace hw := hw.2.2
    refine r_sub [0, 1, 2, 3, 4] rfl ?_
    exact tb_X12_run_76 C hr hK27 hw
  · replace hw := hw.2 hc
    refine r_iload_n C dX12_run_59 3 rfl ?_
    refine r_goto C dX12_run_60 76 (by decide) ?_
    refine r_sub [0, 1, 2, 3, 4] rfl ?_
    exact tb_X12_run_76 C hr hK27 hw
def wb_X12_run_27 (K27 : AH → Nat → Int32 → Int32 → Int32 → Int32 → Prop) (h : AH) (al0 : Nat) (xl1 : Int32) (xl2 : Int32) (xl3 : Int32) (xl4 : Int32)  (post : AH → Int32 → Prop) : Prop := (ob h al0 11) ∧ (∃ rv1, aP h al0 6 = some rv1 ∧ ((ob h rv1 13) ∧ ((vp_in 249 (aL h rv1)) ∧ (((aI h rv1 (249 : Int32).toNatClampNeg) ≤ xl4 → (post h (-1))) ∧ (¬ (aI h rv1 (249 : Int32).toNatClampNeg) ≤ xl4 → ((¬ xl4 = xl2 → (wb_X12_run_53 K27 h al0 xl1 xl2 xl3 xl4 post)) ∧ (xl4 = xl2 → ((0 ≤ xl3 → (wb_X12_run_53 K27 h al0 xl1 xl2 xl3 xl4 post)) ∧ (¬ 0 ≤ xl3 → (wb_X12_run_160 K27 h al0 xl1 xl2 xl3 xl4 post))))))))))
set_option maxRecDepth 100000 in
theorem tb_X12_run_27 {G : GG} {p : Program} {l : Launch} {e : Env} {R : Room} {s : State} {m : MethodId} {args : Array Value} {below : List Frame} {meth : Method} {c : Code} {n0 s0 : Nat} {post : AH → Int32 → Prop} (C : Cx G p R s m args meth c 8 cX12_run RX12 n0 s0 4 98) (hr : meth.sig.returnType = (some .int)) {K27 : AH → Nat → Int32 → Int32 → Int32 → Int32 → Prop} (hK27 : ∀ (h : AH) (al0 : Nat) (xl1 : Int32) (xl2 : Int32) (xl3 : Int32) (xl4 : Int32), K27 h al0 xl1 xl2 xl3 xl4 → AW G p l e R s m args below meth c 8 (QM G (pI post) args s below n0 s0) 27 [(0, .ref (G.1 + al0)), (1, .int xl1), (2, .int xl2), (3, .int xl3), (4, .int xl4)] [] h) {h : AH} {al0 : Nat} {xl1 : Int32} {xl2 : Int32} {xl3 : Int32} {xl4 : Int32}  (hw : wb_X12_run_27 K27 h al0 xl1 xl2 xl3 xl4 post) : AW G p l e R s m args below meth c 8 (QM G (pI post) args s below n0 s0) 27 [(0, .ref (G.1 + al0)), (1, .int xl1), (2, .int xl2), (3, .int xl3), (4, .int xl4)] [] h := by
  unfold wb_X12_run_27 at hw
  refine r_iload C dX12_run_27 4 rfl ?_
  refine r_aload_n C dX12_run_29 0 rfl ?_
  have hob := hw.1
  obtain ⟨rv1, hp, hw⟩ := hw.2
  refine r_getP C fl_RX12_33_11 hob hp (fun _ _ _ => rfl) dX12_run_30 ?_
  refine r_sipush (v := 249) C dX12_run_33 (by decide) ?_
  refine r_iaload C hw.1 hw.2.1 dX12_run_36 ?_
  replace hw := hw.2.2
  refine r_icmp_ge C dX12_run_37 166 (by decide) (fun hc => ?_) (fun hc => ?_)
  · replace hw := hw.1 hc
    refine r_iconst (v := (-1)) C dX12_run_166 (by decide) ?_
    exact r_iret C hr dX12_run_167 hw
  · replace hw := hw.2 hc
    refine r_iload C dX12_run_40 4 rfl ?_
    refine r_iload_n C dX12_run_42 2 rfl ?_
    refine r_icmp_ne C dX12_run_43 53 (by decide) (fun hc => ?_) (fun hc => ?_)
    · replace hw := hw.1 hc
      refine r_sub [0, 1, 2, 3, 4] rfl ?_
      exact tb_X12_run_53 C hr hK27 hw
    · replace hw := hw.2 hc
      refine r_iload_n C dX12_run_46 3 rfl ?_
      refine r_if_ge C dX12_run_47 53 (by decide) (fun hc => ?_) (fun hc => ?_)
      · replace hw := hw.1 hc
        refine r_sub [0, 1, 2, 3, 4] rfl ?_
        exact tb_X12_run_53 C hr hK27 hw
      · replace hw := hw.2 hc
        refine r_goto C dX12_run_50 160 (by decide) ?_
        refine r_sub [0, 1, 2, 3, 4] rfl ?_
        exact tb_X12_run_160 C hr hK27 hw
def wl_X12_run_27  (post : AH → Int32 → Prop) : Nat → AH → Nat → Int32 → Int32 → Int32 → Int32 → Prop
  | 0 => fun _ _ _ _ _ _ => False
  | n + 1 => fun h al0 xl1 xl2 xl3 xl4 => wb_X12_run_27  (wl_X12_run_27  post n) h al0 xl1 xl2 xl3 xl4 post
theorem tl_X12_run_27 {G : GG} {p : Program} {l : Launch} {e : Env} {R : Room} {s : State} {m : MethodId} {args : Array Value} {below : List Frame} {meth : Method} {c : Code} {n0 s0 : Nat} {post : AH → Int32 → Prop} (C : Cx G p R s m args meth c 8 cX12_run RX12 n0 s0 4 98) (hr : meth.sig.returnType = (some .int))   : ∀ (n : Nat) (h : AH) (al0 : Nat) (xl1 : Int32) (xl2 : Int32) (xl3 : Int32) (xl4 : Int32), wl_X12_run_27  post n h al0 xl1 xl2 xl3 xl4 → AW G p l e R s m args below meth c 8 (QM G (pI post) args s below n0 s0) 27 [(0, .ref (G.1 + al0)), (1, .int xl1), (2, .int xl2), (3, .int xl3), (4, .int xl4)] [] h := by
  intro n
  induction n with
  | zero => intro h al0 xl1 xl2 xl3 xl4 hw; exact hw.elim
  | succ n ih => intro h al0 xl1 xl2 xl3 xl4 hw; exact tb_X12_run_27 C hr  ih hw
def wp_X12_run (h : AH) (a0 : Nat) (x1 : Int32) (x2 : Int32) (x3 : Int32) (post : AH → Int32 → Prop) : Prop := (ob h a0 11) ∧ wp_X12_asItIs h a0  (fun hv1  => (ob hv1 a0 11) ∧ (∀ hv2 : AH, hv2 = hI hv1 a0 28 0 → ((ob hv2 a0 11) ∧ (∀ hv3 : AH, hv3 = hI hv2 a0 29 0 → ((ob hv3 a0 11) ∧ (∀ hv4 : AH, hv4 = hI hv3 a0 30 (-1) → ((ob hv4 a0 11) ∧ (∀ hv5 : AH, hv5 = hI hv4 a0 31 0 → (∃ n, wl_X12_run_27  post n hv5 a0 x1 x2 x3 0)))))))))
set_option maxRecDepth 100000 in
theorem c_X12_run (G : GG) (h : AH) (a0 : Nat) (x1 : Int32) (x2 : Int32) (x3 : Int32) (post : AH → Int32 → Prop) (hw : wp_X12_run h a0 x1 x2 x3 post) : MC G yX12_run cX12_run 8 (some .int) 4 98 h [.ref (G.1 + a0), .int x1, .int x2, .int x3] (pI post) := by
  refine MC.of (lv := [(0, .ref (G.1 + a0)), (1, .int x1), (2, .int x2), (3, .int x3)]) (by decide) (Nat.le_of_ble_eq_true rfl) rfl fun p l e R s m args below meth c C hr hnm => ?_
  unfold wp_X12_run at hw
  refine r_aload_n C dX12_run_0 0 rfl ?_
  have hob := hw.1
  replace hw := hw.2
  refine r_callV C (As := []) (rest := []) (c_X12_asItIs G h a0  _ hw) yl_X12_asItIs (gm8 (List.mem_of_getElem? (i := 57) rfl) rfl) (gm8 (List.mem_of_getElem? (i := 59) rfl) rfl) (ci := 11) rfl (by decide) (gsel (List.mem_of_getElem? (i := 70) rfl)) hob (by decide) rfl (Nat.le_of_ble_eq_true rfl) dX12_run_1 rfl (kV fun hv1  hw => ?_)
  refine r_aload_n C dX12_run_4 0 rfl ?_
  refine r_iconst (v := 0) C dX12_run_5 (by decide) ?_
  refine r_putI C fp_RX12_374_11 hw.1 rfl dX12_run_6 ?_
  replace hw := hw.2
  refine r_toph fun hv2 ehv2 => ?_
  replace hw := hw hv2 ehv2
  refine r_aload_n C dX12_run_9 0 rfl ?_
  refine r_iconst (v := 0) C dX12_run_10 (by decide) ?_
  refine r_putI C fp_RX12_377_11 hw.1 rfl dX12_run_11 ?_
  replace hw := hw.2
  refine r_toph fun hv3 ehv3 => ?_
  replace hw := hw hv3 ehv3
  refine r_aload_n C dX12_run_14 0 rfl ?_
  refine r_iconst (v := (-1)) C dX12_run_15 (by decide) ?_
  refine r_putI C fp_RX12_380_11 hw.1 rfl dX12_run_16 ?_
  replace hw := hw.2
  refine r_toph fun hv4 ehv4 => ?_
  replace hw := hw hv4 ehv4
  refine r_aload_n C dX12_run_19 0 rfl ?_
  refine r_iconst (v := 0) C dX12_run_20 (by decide) ?_
  refine r_putI C fp_RX12_383_11 hw.1 rfl dX12_run_21 ?_
  replace hw := hw.2
  refine r_toph fun hv5 ehv5 => ?_
  replace hw := hw hv5 ehv5
  refine r_iconst (v := 0) C dX12_run_24 (by decide) ?_
  refine r_istore C dX12_run_25 [(4, .int 0), (0, .ref (G.1 + a0)), (1, .int x1), (2, .int x2), (3, .int x3)] (by decide) rfl ?_
  refine r_sub [1, 2, 3, 4, 0] rfl ?_
  obtain ⟨n, hw⟩ := hw
  exact tl_X12_run_27 C hr  n _ _ _ _ _ _ hw
theorem dX12_isQuarter_0 : decode cX12_isQuarter 0 = .ok (.iload_n 0, 1) := by decide +kernel
theorem dX12_isQuarter_1 : decode cX12_isQuarter 1 = .ok (.iconst 0, 1) := by decide +kernel
theorem dX12_isQuarter_2 : decode cX12_isQuarter 2 = .ok (.bipush 95, 2) := by decide +kernel
theorem dX12_isQuarter_4 : decode cX12_isQuarter 4 = .ok (.invokestatic 196, 3) := by decide +kernel
theorem dX12_isQuarter_7 : decode cX12_isQuarter 7 = .ok (.ireturn, 1) := by decide +kernel
def wp_X12_isQuarter (h : AH) (x0 : Int32) (post : AH → Int32 → Prop) : Prop := wp_X12_isIn h x0 0 95 (fun hv1 iv2 => (iv2 = 0 ∨ iv2 = 1) ∧ post hv1 iv2)
set_option maxRecDepth 100000 in
theorem c_X12_isQuarter (G : GG) (h : AH) (x0 : Int32) (post : AH → Int32 → Prop) (hw : wp_X12_isQuarter h x0 post) : MC G yX12_isQuarter cX12_isQuarter 1 (some .boolean) 1 22 h [.int x0] (pI post) := by
  refine MC.of (lv := [(0, .int x0)]) (by decide) (Nat.le_of_ble_eq_true rfl) rfl fun p l e R s m args below meth c C hr hnm => ?_
  unfold wp_X12_isQuarter at hw
  refine r_iload_n C dX12_isQuarter_0 0 rfl ?_
  refine r_iconst (v := 0) C dX12_isQuarter_1 (by decide) ?_
  refine r_bipush (v := 95) C dX12_isQuarter_2 (by decide) ?_
  refine r_callS C (As := [.int x0, .int 0, .int 95]) (rest := []) (c_X12_isIn G h x0 0 95 _ hw) yl_X12_isIn (gm7 (List.mem_of_getElem? (i := 189) rfl) rfl) (gm7 (List.mem_of_getElem? (i := 190) rfl) rfl) (by decide) rfl (Nat.le_of_ble_eq_true rfl) dX12_isQuarter_4 rfl (kI fun hv1 iv2 hw => ?_)
  exact r_zret C hr dX12_isQuarter_7 hw.1 hw.2
theorem dX12_judge_0 : decode cX12_judge 0 = .ok (.aload_n 0, 1) := by decide +kernel
theorem dX12_judge_1 : decode cX12_judge 1 = .ok (.iconst 0, 1) := by decide +kernel
theorem dX12_judge_2 : decode cX12_judge 2 = .ok (.putfield 1, 3) := by decide +kernel
theorem dX12_judge_5 : decode cX12_judge 5 = .ok (.iload_n 1, 1) := by decide +kernel
theorem dX12_judge_6 : decode cX12_judge 6 = .ok (.invokestatic 393, 3) := by decide +kernel
theorem dX12_judge_9 : decode cX12_judge 9 = .ok (.ifCond .ne 6, 3) := by decide +kernel
theorem dX12_judge_12 : decode cX12_judge 12 = .ok (.bipush (-2), 2) := by decide +kernel
theorem dX12_judge_14 : decode cX12_judge 14 = .ok (.ireturn, 1) := by decide +kernel
theorem dX12_judge_15 : decode cX12_judge 15 = .ok (.aload_n 0, 1) := by decide +kernel
theorem dX12_judge_16 : decode cX12_judge 16 = .ok (.iload_n 1, 1) := by decide +kernel
theorem dX12_judge_17 : decode cX12_judge 17 = .ok (.iconst (-1), 1) := by decide +kernel
theorem dX12_judge_18 : decode cX12_judge 18 = .ok (.iconst (-1), 1) := by decide +kernel
theorem dX12_judge_19 : decode cX12_judge 19 = .ok (.invokevirtual 396, 3) := by decide +kernel
theorem dX12_judge_22 : decode cX12_judge 22 = .ok (.istore_n 2, 1) := by decide +kernel
theorem dX12_judge_23 : decode cX12_judge 23 = .ok (.aload_n 0, 1) := by decide +kernel
theorem dX12_judge_24 : decode cX12_judge 24 = .ok (.getfield 59, 3) := by decide +kernel
theorem dX12_judge_27 : decode cX12_judge 27 = .ok (.iconst 0, 1) := by decide +kernel
theorem dX12_judge_28 : decode cX12_judge 28 = .ok (.aload_n 0, 1) := by decide +kernel
theorem dX12_judge_29 : decode cX12_judge 29 = .ok (.getfield 383, 3) := by decide +kernel
theorem dX12_judge_32 : decode cX12_judge 32 = .ok (.iastore, 1) := by decide +kernel
theorem dX12_judge_33 : decode cX12_judge 33 = .ok (.aload_n 0, 1) := by decide +kernel
theorem dX12_judge_34 : decode cX12_judge 34 = .ok (.getfield 59, 3) := by decide +kernel
theorem dX12_judge_37 : decode cX12_judge 37 = .ok (.iconst 1, 1) := by decide +kernel
theorem dX12_judge_38 : decode cX12_judge 38 = .ok (.aload_n 0, 1) := by decide +kernel
theorem dX12_judge_39 : decode cX12_judge 39 = .ok (.getfield 374, 3) := by decide +kernel
theorem dX12_judge_42 : decode cX12_judge 42 = .ok (.iastore, 1) := by decide +kernel
theorem dX12_judge_43 : decode cX12_judge 43 = .ok (.aload_n 0, 1) := by decide +kernel
theorem dX12_judge_44 : decode cX12_judge 44 = .ok (.getfield 59, 3) := by decide +kernel
theorem dX12_judge_47 : decode cX12_judge 47 = .ok (.iconst 2, 1) := by decide +kernel
theorem dX12_judge_48 : decode cX12_judge 48 = .ok (.aload_n 0, 1) := by decide +kernel
theorem dX12_judge_49 : decode cX12_judge 49 = .ok (.getfield 377, 3) := by decide +kernel
theorem dX12_judge_52 : decode cX12_judge 52 = .ok (.iastore, 1) := by decide +kernel
theorem dX12_judge_53 : decode cX12_judge 53 = .ok (.aload_n 0, 1) := by decide +kernel
theorem dX12_judge_54 : decode cX12_judge 54 = .ok (.getfield 59, 3) := by decide +kernel
theorem dX12_judge_57 : decode cX12_judge 57 = .ok (.iconst 3, 1) := by decide +kernel
theorem dX12_judge_58 : decode cX12_judge 58 = .ok (.aload_n 0, 1) := by decide +kernel
theorem dX12_judge_59 : decode cX12_judge 59 = .ok (.getfield 380, 3) := by decide +kernel
theorem dX12_judge_62 : decode cX12_judge 62 = .ok (.iastore, 1) := by decide +kernel
theorem dX12_judge_63 : decode cX12_judge 63 = .ok (.aload_n 0, 1) := by decide +kernel
theorem dX12_judge_64 : decode cX12_judge 64 = .ok (.getfield 59, 3) := by decide +kernel
theorem dX12_judge_67 : decode cX12_judge 67 = .ok (.iconst 4, 1) := by decide +kernel
theorem dX12_judge_68 : decode cX12_judge 68 = .ok (.aload_n 0, 1) := by decide +kernel
theorem dX12_judge_69 : decode cX12_judge 69 = .ok (.invokevirtual 362, 3) := by decide +kernel
theorem dX12_judge_72 : decode cX12_judge 72 = .ok (.iastore, 1) := by decide +kernel
theorem dX12_judge_73 : decode cX12_judge 73 = .ok (.aload_n 0, 1) := by decide +kernel
theorem dX12_judge_74 : decode cX12_judge 74 = .ok (.aload_n 0, 1) := by decide +kernel
theorem dX12_judge_75 : decode cX12_judge 75 = .ok (.getfield 33, 3) := by decide +kernel
theorem dX12_judge_78 : decode cX12_judge 78 = .ok (.iconst 2, 1) := by decide +kernel
theorem dX12_judge_79 : decode cX12_judge 79 = .ok (.iaload, 1) := by decide +kernel
theorem dX12_judge_80 : decode cX12_judge 80 = .ok (.putfield 65, 3) := by decide +kernel
theorem dX12_judge_83 : decode cX12_judge 83 = .ok (.iconst 0, 1) := by decide +kernel
theorem dX12_judge_84 : decode cX12_judge 84 = .ok (.istore_n 3, 1) := by decide +kernel
theorem dX12_judge_85 : decode cX12_judge 85 = .ok (.iload_n 3, 1) := by decide +kernel
theorem dX12_judge_86 : decode cX12_judge 86 = .ok (.bipush 24, 2) := by decide +kernel
theorem dX12_judge_88 : decode cX12_judge 88 = .ok (.if_icmp .ge 21, 3) := by decide +kernel
theorem dX12_judge_91 : decode cX12_judge 91 = .ok (.aload_n 0, 1) := by decide +kernel
theorem dX12_judge_92 : decode cX12_judge 92 = .ok (.getfield 62, 3) := by decide +kernel
theorem dX12_judge_95 : decode cX12_judge 95 = .ok (.iload_n 3, 1) := by decide +kernel
theorem dX12_judge_96 : decode cX12_judge 96 = .ok (.aload_n 0, 1) := by decide +kernel
theorem dX12_judge_97 : decode cX12_judge 97 = .ok (.getfield 50, 3) := by decide +kernel
theorem dX12_judge_100 : decode cX12_judge 100 = .ok (.iload_n 3, 1) := by decide +kernel
theorem dX12_judge_101 : decode cX12_judge 101 = .ok (.iaload, 1) := by decide +kernel
theorem dX12_judge_102 : decode cX12_judge 102 = .ok (.iastore, 1) := by decide +kernel
theorem dX12_judge_103 : decode cX12_judge 103 = .ok (.iinc 3 1, 3) := by decide +kernel
theorem dX12_judge_106 : decode cX12_judge 106 = .ok (.goto (-21), 3) := by decide +kernel
theorem dX12_judge_109 : decode cX12_judge 109 = .ok (.iload_n 2, 1) := by decide +kernel
theorem dX12_judge_110 : decode cX12_judge 110 = .ok (.ireturn, 1) := by decide +kernel
def wb_X12_judge_85 (K85 : AH → Nat → Int32 → Int32 → Prop) (h : AH) (al0 : Nat) (xl2 : Int32) (xl3 : Int32)  (post : AH → Int32 → Prop) : Prop := (24 ≤ xl3 → (post h xl2)) ∧ (¬ 24 ≤ xl3 → ((ob h al0 11) ∧ (∃ rv1, aP h al0 33 = some rv1 ∧ ((ob h al0 11) ∧ (∃ rv2, aP h al0 24 = some rv2 ∧ ((ob h rv2 13) ∧ ((vp_in xl3 (aL h rv2)) ∧ ((ob h rv1 13) ∧ ((vp_in xl3 (aL h rv1)) ∧ (∀ hv3 : AH, hv3 = hI h rv1 xl3.toNatClampNeg (aI h rv2 xl3.toNatClampNeg) → (∀ iv4 : Int32, iv4 = xl3 + 1 → (K85 hv3 al0 xl2 iv4))))))))))))
set_option maxRecDepth 100000 in
theorem tb_X12_judge_85 {G : GG} {p : Program} {l : Launch} {e : Env} {R : Room} {s : State} {m : MethodId} {args : Array Value} {below : List Frame} {meth : Method} {c : Code} {n0 s0 : Nat} {post : AH → Int32 → Prop} (C : Cx G p R s m args meth c 4 cX12_judge RX12 n0 s0 5 125) (hr : meth.sig.returnType = (some .int)) {K85 : AH → Nat → Int32 → Int32 → Prop} (hK85 : ∀ (h : AH) (al0 : Nat) (xl2 : Int32) (xl3 : Int32), K85 h al0 xl2 xl3 → AW G p l e R s m args below meth c 4 (QM G (pI post) args s below n0 s0) 85 [(0, .ref (G.1 + al0)), (2, .int xl2), (3, .int xl3)] [] h) {h : AH} {al0 : Nat} {xl2 : Int32} {xl3 : Int32}  (hw : wb_X12_judge_85 K85 h al0 xl2 xl3 post) : AW G p l e R s m args below meth c 4 (QM G (pI post) args s below n0 s0) 85 [(0, .ref (G.1 + al0)), (2, .int xl2), (3, .int xl3)] [] h := by
  unfold wb_X12_judge_85 at hw
  refine r_iload_n C dX12_judge_85 2 rfl ?_
  refine r_bipush (v := 24) C dX12_judge_86 (by decide) ?_
  refine r_icmp_ge C dX12_judge_88 109 (by decide) (fun hc => ?_) (fun hc => ?_)
  · replace hw := hw.1 hc
    refine r_iload_n C dX12_judge_109 1 rfl ?_
    exact r_iret C hr dX12_judge_110 hw
  · replace hw := hw.2 hc
    refine r_aload_n C dX12_judge_91 0 rfl ?_
    have hob := hw.1
    obtain ⟨rv1, hp, hw⟩ := hw.2
    refine r_getP C fl_RX12_62_11 hob hp (fun _ _ _ => rfl) dX12_judge_92 ?_
    refine r_iload_n C dX12_judge_95 2 rfl ?_
    refine r_aload_n C dX12_judge_96 0 rfl ?_
    have hob := hw.1
    obtain ⟨rv2, hp, hw⟩ := hw.2
    refine r_getP C fl_RX12_50_11 hob hp (fun _ _ _ => rfl) dX12_judge_97 ?_
    refine r_iload_n C dX12_judge_100 2 rfl ?_
    refine r_iaload C hw.1 hw.2.1 dX12_judge_101 ?_
    replace hw := hw.2.2
    refine r_iastore C hw.1 hw.2.1 dX12_judge_102 ?_
    replace hw := hw.2.2
    refine r_toph fun hv3 ehv3 => ?_
    replace hw := hw hv3 ehv3
    obtain ⟨iv4, eiv4⟩ : ∃ q : Int32, q = xl3 + 1 := ⟨_, rfl⟩
    replace hw := hw iv4 eiv4
    refine r_iinc C dX12_judge_103 2 rfl (by rw [eiv4]; rfl) [(3, .int iv4), (0, .ref (G.1 + al0)), (2, .int xl2)] (by decide) rfl ?_
    refine r_goto C dX12_judge_106 85 (by decide) ?_
    refine r_sub [1, 2, 0] rfl ?_
    exact hK85 _ _ _ _ hw
def wl_X12_judge_85  (post : AH → Int32 → Prop) : Nat → AH → Nat → Int32 → Int32 → Prop
  | 0 => fun _ _ _ _ => False
  | n + 1 => fun h al0 xl2 xl3 => wb_X12_judge_85  (wl_X12_judge_85  post n) h al0 xl2 xl3 post
theorem tl_X12_judge_85 {G : GG} {p : Program} {l : Launch} {e : Env} {R : Room} {s : State} {m : MethodId} {args : Array Value} {below : List Frame} {meth : Method} {c : Code} {n0 s0 : Nat} {post : AH → Int32 → Prop} (C : Cx G p R s m args meth c 4 cX12_judge RX12 n0 s0 5 125) (hr : meth.sig.returnType = (some .int))   : ∀ (n : Nat) (h : AH) (al0 : Nat) (xl2 : Int32) (xl3 : Int32), wl_X12_judge_85  post n h al0 xl2 xl3 → AW G p l e R s m args below meth c 4 (QM G (pI post) args s below n0 s0) 85 [(0, .ref (G.1 + al0)), (2, .int xl2), (3, .int xl3)] [] h := by
  intro n
  induction n with
  | zero => intro h al0 xl2 xl3 hw; exact hw.elim
  | succ n ih => intro h al0 xl2 xl3 hw; exact tb_X12_judge_85 C hr  ih hw
def wp_X12_judge (h : AH) (a0 : Nat) (x1 : Int32) (post : AH → Int32 → Prop) : Prop := (ob h a0 11) ∧ (∀ hv1 : AH, hv1 = hI h a0 0 0 → (wp_X12_isQuarter hv1 x1 (fun hv2 iv3 => (¬ iv3 = 0 → ((ob hv2 a0 11) ∧ wp_X12_run hv2 a0 x1 (-1) (-1) (fun hv4 iv5 => (ob hv4 a0 11) ∧ (∃ rv6, aP hv4 a0 32 = some rv6 ∧ ((ob hv4 a0 11) ∧ ((ob hv4 rv6 13) ∧ ((vp_in 0 (aL hv4 rv6)) ∧ (∀ hv7 : AH, hv7 = hI hv4 rv6 (0 : Int32).toNatClampNeg (aI hv4 a0 31) → ((ob hv7 a0 11) ∧ (∃ rv8, aP hv7 a0 32 = some rv8 ∧ ((ob hv7 a0 11) ∧ ((ob hv7 rv8 13) ∧ ((vp_in 1 (aL hv7 rv8)) ∧ (∀ hv9 : AH, hv9 = hI hv7 rv8 (1 : Int32).toNatClampNeg (aI hv7 a0 28) → ((ob hv9 a0 11) ∧ (∃ rv10, aP hv9 a0 32 = some rv10 ∧ ((ob hv9 a0 11) ∧ ((ob hv9 rv10 13) ∧ ((vp_in 2 (aL hv9 rv10)) ∧ (∀ hv11 : AH, hv11 = hI hv9 rv10 (2 : Int32).toNatClampNeg (aI hv9 a0 29) → ((ob hv11 a0 11) ∧ (∃ rv12, aP hv11 a0 32 = some rv12 ∧ ((ob hv11 a0 11) ∧ ((ob hv11 rv12 13) ∧ ((vp_in 3 (aL hv11 rv12)) ∧ (∀ hv13 : AH, hv13 = hI hv11 rv12 (3 : Int32).toNatClampNeg (aI hv11 a0 30) → ((ob hv13 a0 11) ∧ (∃ rv14, aP hv13 a0 32 = some rv14 ∧ ((ob hv13 a0 11) ∧ wp_X12_met hv13 a0  (fun hv15 iv16 => (ob hv15 rv14 13) ∧ ((vp_in 4 (aL hv15 rv14)) ∧ (∀ hv17 : AH, hv17 = hI hv15 rv14 (4 : Int32).toNatClampNeg iv16 → ((ob hv17 a0 11) ∧ (∃ rv18, aP hv17 a0 6 = some rv18 ∧ ((ob hv17 rv18 13) ∧ ((vp_in 2 (aL hv17 rv18)) ∧ ((ob hv17 a0 11) ∧ (∀ hv19 : AH, hv19 = hI hv17 a0 34 (aI hv17 rv18 (2 : Int32).toNatClampNeg) → (∃ n, wl_X12_judge_85  post n hv19 a0 iv5 0))))))))))))))))))))))))))))))))))))))) ∧ (iv3 = 0 → (post hv2 (-2))))))
set_option maxRecDepth 100000 in
theorem c_X12_judge (G : GG) (h : AH) (a0 : Nat) (x1 : Int32) (post : AH → Int32 → Prop) (hw : wp_X12_judge h a0 x1 post) : MC G yX12_judge cX12_judge 4 (some .int) 5 125 h [.ref (G.1 + a0), .int x1] (pI post) := by
  refine MC.of (lv := [(0, .ref (G.1 + a0)), (1, .int x1)]) (by decide) (Nat.le_of_ble_eq_true rfl) rfl fun p l e R s m args below meth c C hr hnm => ?_
  unfold wp_X12_judge at hw
  refine r_aload_n C dX12_judge_0 0 rfl ?_
  refine r_iconst (v := 0) C dX12_judge_1 (by decide) ?_
  refine r_putI C fp_RX12_1_11 hw.1 rfl dX12_judge_2 ?_
  replace hw := hw.2
  refine r_toph fun hv1 ehv1 => ?_
  replace hw := hw hv1 ehv1
  refine r_iload_n C dX12_judge_5 1 rfl ?_
  refine r_callS C (As := [.int x1]) (rest := []) (c_X12_isQuarter G hv1 x1 _ hw) yl_X12_isQuarter (gm8 (List.mem_of_getElem? (i := 177) rfl) rfl) (gm8 (List.mem_of_getElem? (i := 178) rfl) rfl) (by decide) rfl (Nat.le_of_ble_eq_true rfl) dX12_judge_6 rfl (kI fun hv2 iv3 hw => ?_)
  refine r_if_ne C dX12_judge_9 15 (by decide) (fun hc => ?_) (fun hc => ?_)
  · replace hw := hw.1 hc
    refine r_aload_n C dX12_judge_15 0 rfl ?_
    refine r_iload_n C dX12_judge_16 1 rfl ?_
    refine r_iconst (v := (-1)) C dX12_judge_17 (by decide) ?_
    refine r_iconst (v := (-1)) C dX12_judge_18 (by decide) ?_
    have hob := hw.1
    replace hw := hw.2
    refine r_callV C (As := [.int x1, .int (-1), .int (-1)]) (rest := []) (c_X12_run G hv2 a0 x1 (-1) (-1) _ hw) yl_X12_run (gm8 (List.mem_of_getElem? (i := 180) rfl) rfl) (gm8 (List.mem_of_getElem? (i := 182) rfl) rfl) (ci := 11) rfl (by decide) (gsel (List.mem_of_getElem? (i := 89) rfl)) hob (by decide) rfl (Nat.le_of_ble_eq_true rfl) dX12_judge_19 rfl (kI fun hv4 iv5 hw => ?_)
    refine r_istore_n C dX12_judge_22 [(2, .int iv5), (0, .ref (G.1 + a0)), (1, .int x1)] (by decide) rfl ?_
    refine r_aload_n C dX12_judge_23 1 rfl ?_
    have hob := hw.1
    obtain ⟨rv6, hp, hw⟩ := hw.2
    refine r_getP C fl_RX12_59_11 hob hp (fun _ _ _ => rfl) dX12_judge_24 ?_
    refine r_iconst (v := 0) C dX12_judge_27 (by decide) ?_
    refine r_aload_n C dX12_judge_28 1 rfl ?_
    refine r_getI C fl_RX12_383_11 hw.1 (fun _ _ _ => rfl) dX12_judge_29 ?_
    replace hw := hw.2
    refine r_iastore C hw.1 hw.2.1 dX12_judge_32 ?_
    replace hw := hw.2.2
    refine r_toph fun hv7 ehv7 => ?_
    replace hw := hw hv7 ehv7
    refine r_aload_n C dX12_judge_33 1 rfl ?_
    have hob := hw.1
    obtain ⟨rv8, hp, hw⟩ := hw.2
    refine r_getP C fl_RX12_59_11 hob hp (fun _ _ _ => rfl) dX12_judge_34 ?_
    refine r_iconst (v := 1) C dX12_judge_37 (by decide) ?_
    refine r_aload_n C dX12_judge_38 1 rfl ?_
    refine r_getI C fl_RX12_374_11 hw.1 (fun _ _ _ => rfl) dX12_judge_39 ?_
    replace hw := hw.2
    refine r_iastore C hw.1 hw.2.1 dX12_judge_42 ?_
    replace hw := hw.2.2
    refine r_toph fun hv9 ehv9 => ?_
    replace hw := hw hv9 ehv9
    refine r_aload_n C dX12_judge_43 1 rfl ?_
    have hob := hw.1
    obtain ⟨rv10, hp, hw⟩ := hw.2
    refine r_getP C fl_RX12_59_11 hob hp (fun _ _ _ => rfl) dX12_judge_44 ?_
    refine r_iconst (v := 2) C dX12_judge_47 (by decide) ?_
    refine r_aload_n C dX12_judge_48 1 rfl ?_
    refine r_getI C fl_RX12_377_11 hw.1 (fun _ _ _ => rfl) dX12_judge_49 ?_
    replace hw := hw.2
    refine r_iastore C hw.1 hw.2.1 dX12_judge_52 ?_
    replace hw := hw.2.2
    refine r_toph fun hv11 ehv11 => ?_
    replace hw := hw hv11 ehv11
    refine r_aload_n C dX12_judge_53 1 rfl ?_
    have hob := hw.1
    obtain ⟨rv12, hp, hw⟩ := hw.2
    refine r_getP C fl_RX12_59_11 hob hp (fun _ _ _ => rfl) dX12_judge_54 ?_
    refine r_iconst (v := 3) C dX12_judge_57 (by decide) ?_
    refine r_aload_n C dX12_judge_58 1 rfl ?_
    refine r_getI C fl_RX12_380_11 hw.1 (fun _ _ _ => rfl) dX12_judge_59 ?_
    replace hw := hw.2
    refine r_iastore C hw.1 hw.2.1 dX12_judge_62 ?_
    replace hw := hw.2.2
    refine r_toph fun hv13 ehv13 => ?_
    replace hw := hw hv13 ehv13
    refine r_aload_n C dX12_judge_63 1 rfl ?_
    have hob := hw.1
    obtain ⟨rv14, hp, hw⟩ := hw.2
    refine r_getP C fl_RX12_59_11 hob hp (fun _ _ _ => rfl) dX12_judge_64 ?_
    refine r_iconst (v := 4) C dX12_judge_67 (by decide) ?_
    refine r_aload_n C dX12_judge_68 1 rfl ?_
    have hob := hw.1
    replace hw := hw.2
    refine r_callV C (As := []) (rest := [.int 4, .ref (G.1 + rv14)]) (c_X12_met G hv13 a0  _ hw) yl_X12_met (gm8 (List.mem_of_getElem? (i := 141) rfl) rfl) (gm8 (List.mem_of_getElem? (i := 143) rfl) rfl) (ci := 11) rfl (by decide) (gsel (List.mem_of_getElem? (i := 83) rfl)) hob (by decide) rfl (Nat.le_of_ble_eq_true rfl) dX12_judge_69 rfl (kI fun hv15 iv16 hw => ?_)
    refine r_iastore C hw.1 hw.2.1 dX12_judge_72 ?_
    replace hw := hw.2.2
    refine r_toph fun hv17 ehv17 => ?_
    replace hw := hw hv17 ehv17
    refine r_aload_n C dX12_judge_73 1 rfl ?_
    refine r_aload_n C dX12_judge_74 1 rfl ?_
    have hob := hw.1
    obtain ⟨rv18, hp, hw⟩ := hw.2
    refine r_getP C fl_RX12_33_11 hob hp (fun _ _ _ => rfl) dX12_judge_75 ?_
    refine r_iconst (v := 2) C dX12_judge_78 (by decide) ?_
    refine r_iaload C hw.1 hw.2.1 dX12_judge_79 ?_
    replace hw := hw.2.2
    refine r_putI C fp_RX12_65_11 hw.1 rfl dX12_judge_80 ?_
    replace hw := hw.2
    refine r_toph fun hv19 ehv19 => ?_
    replace hw := hw hv19 ehv19
    refine r_iconst (v := 0) C dX12_judge_83 (by decide) ?_
    refine r_istore_n C dX12_judge_84 [(3, .int 0), (2, .int iv5), (0, .ref (G.1 + a0)), (1, .int x1)] (by decide) rfl ?_
    refine r_sub [2, 1, 0] rfl ?_
    obtain ⟨n, hw⟩ := hw
    exact tl_X12_judge_85 C hr  n _ _ _ _ hw
  · replace hw := hw.2 hc
    refine r_bipush (v := (-2)) C dX12_judge_12 (by decide) ?_
    exact r_iret C hr dX12_judge_14 hw
theorem dX12_judged_0 : decode cX12_judged 0 = .ok (.aload_n 0, 1) := by decide +kernel
theorem dX12_judged_1 : decode cX12_judged 1 = .ok (.iconst 0, 1) := by decide +kernel
theorem dX12_judged_2 : decode cX12_judged 2 = .ok (.putfield 1, 3) := by decide +kernel
theorem dX12_judged_5 : decode cX12_judged 5 = .ok (.aload_n 0, 1) := by decide +kernel
theorem dX12_judged_6 : decode cX12_judged 6 = .ok (.getfield 65, 3) := by decide +kernel
theorem dX12_judged_9 : decode cX12_judged 9 = .ok (.ifCond .lt 21, 3) := by decide +kernel
theorem dX12_judged_12 : decode cX12_judged 12 = .ok (.iload_n 1, 1) := by decide +kernel
theorem dX12_judged_13 : decode cX12_judged 13 = .ok (.iconst 0, 1) := by decide +kernel
theorem dX12_judged_14 : decode cX12_judged 14 = .ok (.iconst 4, 1) := by decide +kernel
theorem dX12_judged_15 : decode cX12_judged 15 = .ok (.invokestatic 196, 3) := by decide +kernel
theorem dX12_judged_18 : decode cX12_judged 18 = .ok (.ifCond .eq 12, 3) := by decide +kernel
theorem dX12_judged_21 : decode cX12_judged 21 = .ok (.aload_n 0, 1) := by decide +kernel
theorem dX12_judged_22 : decode cX12_judged 22 = .ok (.getfield 59, 3) := by decide +kernel
theorem dX12_judged_25 : decode cX12_judged 25 = .ok (.iload_n 1, 1) := by decide +kernel
theorem dX12_judged_26 : decode cX12_judged 26 = .ok (.iaload, 1) := by decide +kernel
theorem dX12_judged_27 : decode cX12_judged 27 = .ok (.goto 4, 3) := by decide +kernel
theorem dX12_judged_30 : decode cX12_judged 30 = .ok (.iconst (-1), 1) := by decide +kernel
theorem dX12_judged_31 : decode cX12_judged 31 = .ok (.ireturn, 1) := by decide +kernel
def wp_X12_judged (h : AH) (a0 : Nat) (x1 : Int32) (post : AH → Int32 → Prop) : Prop := (ob h a0 11) ∧ (∀ hv1 : AH, hv1 = hI h a0 0 0 → ((ob hv1 a0 11) ∧ (((aI hv1 a0 34) < 0 → (post hv1 (-1))) ∧ (¬ (aI hv1 a0 34) < 0 → (wp_X12_isIn hv1 x1 0 4 (fun hv2 iv3 => (iv3 = 0 → (post hv2 (-1))) ∧ (¬ iv3 = 0 → ((ob hv2 a0 11) ∧ (∃ rv4, aP hv2 a0 32 = some rv4 ∧ ((ob hv2 rv4 13) ∧ ((vp_in x1 (aL hv2 rv4)) ∧ (post hv2 (aI hv2 rv4 x1.toNatClampNeg)))))))))))))
set_option maxRecDepth 100000 in
theorem c_X12_judged (G : GG) (h : AH) (a0 : Nat) (x1 : Int32) (post : AH → Int32 → Prop) (hw : wp_X12_judged h a0 x1 post) : MC G yX12_judged cX12_judged 2 (some .int) 1 22 h [.ref (G.1 + a0), .int x1] (pI post) := by
  refine MC.of (lv := [(0, .ref (G.1 + a0)), (1, .int x1)]) (by decide) (Nat.le_of_ble_eq_true rfl) rfl fun p l e R s m args below meth c C hr hnm => ?_
  unfold wp_X12_judged at hw
  refine r_aload_n C dX12_judged_0 0 rfl ?_
  refine r_iconst (v := 0) C dX12_judged_1 (by decide) ?_
  refine r_putI C fp_RX12_1_11 hw.1 rfl dX12_judged_2 ?_
  replace hw := hw.2
  refine r_toph fun hv1 ehv1 => ?_
  replace hw := hw hv1 ehv1
  refine r_aload_n C dX12_judged_5 0 rfl ?_
  refine r_getI C fl_RX12_65_11 hw.1 (fun _ _ _ => rfl) dX12_judged_6 ?_
  replace hw := hw.2
  refine r_if_lt C dX12_judged_9 30 (by decide) (fun hc => ?_) (fun hc => ?_)
  · replace hw := hw.1 hc
    refine r_iconst (v := (-1)) C dX12_judged_30 (by decide) ?_
    exact r_iret C hr dX12_judged_31 hw
  · replace hw := hw.2 hc
    refine r_iload_n C dX12_judged_12 1 rfl ?_
    refine r_iconst (v := 0) C dX12_judged_13 (by decide) ?_
    refine r_iconst (v := 4) C dX12_judged_14 (by decide) ?_
    refine r_callS C (As := [.int x1, .int 0, .int 4]) (rest := []) (c_X12_isIn G hv1 x1 0 4 _ hw) yl_X12_isIn (gm7 (List.mem_of_getElem? (i := 189) rfl) rfl) (gm7 (List.mem_of_getElem? (i := 190) rfl) rfl) (by decide) rfl (Nat.le_of_ble_eq_true rfl) dX12_judged_15 rfl (kI fun hv2 iv3 hw => ?_)
    refine r_if_eq C dX12_judged_18 30 (by decide) (fun hc => ?_) (fun hc => ?_)
    · replace hw := hw.1 hc
      refine r_iconst (v := (-1)) C dX12_judged_30 (by decide) ?_
      exact r_iret C hr dX12_judged_31 hw
    · replace hw := hw.2 hc
      refine r_aload_n C dX12_judged_21 0 rfl ?_
      have hob := hw.1
      obtain ⟨rv4, hp, hw⟩ := hw.2
      refine r_getP C fl_RX12_59_11 hob hp (fun _ _ _ => rfl) dX12_judged_22 ?_
      refine r_iload_n C dX12_judged_25 1 rfl ?_
      refine r_iaload C hw.1 hw.2.1 dX12_judged_26 ?_
      replace hw := hw.2.2
      refine r_goto C dX12_judged_27 31 (by decide) ?_
      exact r_iret C hr dX12_judged_31 hw
theorem dX12_judgedAt_0 : decode cX12_judgedAt 0 = .ok (.aload_n 0, 1) := by decide +kernel
theorem dX12_judgedAt_1 : decode cX12_judgedAt 1 = .ok (.iconst 0, 1) := by decide +kernel
theorem dX12_judgedAt_2 : decode cX12_judgedAt 2 = .ok (.putfield 1, 3) := by decide +kernel
theorem dX12_judgedAt_5 : decode cX12_judgedAt 5 = .ok (.iload_n 1, 1) := by decide +kernel
theorem dX12_judgedAt_6 : decode cX12_judgedAt 6 = .ok (.iconst 0, 1) := by decide +kernel
theorem dX12_judgedAt_7 : decode cX12_judgedAt 7 = .ok (.aload_n 0, 1) := by decide +kernel
theorem dX12_judgedAt_8 : decode cX12_judgedAt 8 = .ok (.getfield 65, 3) := by decide +kernel
theorem dX12_judgedAt_11 : decode cX12_judgedAt 11 = .ok (.iconst 1, 1) := by decide +kernel
theorem dX12_judgedAt_12 : decode cX12_judgedAt 12 = .ok (.isub, 1) := by decide +kernel
theorem dX12_judgedAt_13 : decode cX12_judgedAt 13 = .ok (.invokestatic 196, 3) := by decide +kernel
theorem dX12_judgedAt_16 : decode cX12_judgedAt 16 = .ok (.ifCond .eq 25, 3) := by decide +kernel
theorem dX12_judgedAt_19 : decode cX12_judgedAt 19 = .ok (.iload_n 2, 1) := by decide +kernel
theorem dX12_judgedAt_20 : decode cX12_judgedAt 20 = .ok (.iconst 0, 1) := by decide +kernel
theorem dX12_judgedAt_21 : decode cX12_judgedAt 21 = .ok (.iconst 2, 1) := by decide +kernel
theorem dX12_judgedAt_22 : decode cX12_judgedAt 22 = .ok (.invokestatic 196, 3) := by decide +kernel
theorem dX12_judgedAt_25 : decode cX12_judgedAt 25 = .ok (.ifCond .eq 16, 3) := by decide +kernel
theorem dX12_judgedAt_28 : decode cX12_judgedAt 28 = .ok (.aload_n 0, 1) := by decide +kernel
theorem dX12_judgedAt_29 : decode cX12_judgedAt 29 = .ok (.getfield 62, 3) := by decide +kernel
theorem dX12_judgedAt_32 : decode cX12_judgedAt 32 = .ok (.iconst 3, 1) := by decide +kernel
theorem dX12_judgedAt_33 : decode cX12_judgedAt 33 = .ok (.iload_n 1, 1) := by decide +kernel
theorem dX12_judgedAt_34 : decode cX12_judgedAt 34 = .ok (.imul, 1) := by decide +kernel
theorem dX12_judgedAt_35 : decode cX12_judgedAt 35 = .ok (.iload_n 2, 1) := by decide +kernel
theorem dX12_judgedAt_36 : decode cX12_judgedAt 36 = .ok (.iadd, 1) := by decide +kernel
theorem dX12_judgedAt_37 : decode cX12_judgedAt 37 = .ok (.iaload, 1) := by decide +kernel
theorem dX12_judgedAt_38 : decode cX12_judgedAt 38 = .ok (.goto 4, 3) := by decide +kernel
theorem dX12_judgedAt_41 : decode cX12_judgedAt 41 = .ok (.iconst (-1), 1) := by decide +kernel
theorem dX12_judgedAt_42 : decode cX12_judgedAt 42 = .ok (.ireturn, 1) := by decide +kernel
def wp_X12_judgedAt (h : AH) (a0 : Nat) (x1 : Int32) (x2 : Int32) (post : AH → Int32 → Prop) : Prop := (ob h a0 11) ∧ (∀ hv1 : AH, hv1 = hI h a0 0 0 → ((ob hv1 a0 11) ∧ (wp_X12_isIn hv1 x1 0 ((aI hv1 a0 34) - (1 : Int32)) (fun hv2 iv3 => (iv3 = 0 → (post hv2 (-1))) ∧ (¬ iv3 = 0 → (wp_X12_isIn hv2 x2 0 2 (fun hv4 iv5 => (iv5 = 0 → (post hv4 (-1))) ∧ (¬ iv5 = 0 → ((ob hv4 a0 11) ∧ (∃ rv6, aP hv4 a0 33 = some rv6 ∧ ((ob hv4 rv6 13) ∧ ((vp_in (((3 : Int32) * x1) + x2) (aL hv4 rv6)) ∧ (post hv4 (aI hv4 rv6 (((3 : Int32) * x1) + x2).toNatClampNeg))))))))))))))
set_option maxRecDepth 100000 in
theorem c_X12_judgedAt (G : GG) (h : AH) (a0 : Nat) (x1 : Int32) (x2 : Int32) (post : AH → Int32 → Prop) (hw : wp_X12_judgedAt h a0 x1 x2 post) : MC G yX12_judgedAt cX12_judgedAt 3 (some .int) 1 22 h [.ref (G.1 + a0), .int x1, .int x2] (pI post) := by
  refine MC.of (lv := [(0, .ref (G.1 + a0)), (1, .int x1), (2, .int x2)]) (by decide) (Nat.le_of_ble_eq_true rfl) rfl fun p l e R s m args below meth c C hr hnm => ?_
  unfold wp_X12_judgedAt at hw
  refine r_aload_n C dX12_judgedAt_0 0 rfl ?_
  refine r_iconst (v := 0) C dX12_judgedAt_1 (by decide) ?_
  refine r_putI C fp_RX12_1_11 hw.1 rfl dX12_judgedAt_2 ?_
  replace hw := hw.2
  refine r_toph fun hv1 ehv1 => ?_
  replace hw := hw hv1 ehv1
  refine r_iload_n C dX12_judgedAt_5 1 rfl ?_
  refine r_iconst (v := 0) C dX12_judgedAt_6 (by decide) ?_
  refine r_aload_n C dX12_judgedAt_7 0 rfl ?_
  refine r_getI C fl_RX12_65_11 hw.1 (fun _ _ _ => rfl) dX12_judgedAt_8 ?_
  replace hw := hw.2
  refine r_iconst (v := 1) C dX12_judgedAt_11 (by decide) ?_
  refine r_isub C dX12_judgedAt_12 ?_
  refine r_callS C (As := [.int x1, .int 0, .int ((aI hv1 a0 34) - (1 : Int32))]) (rest := []) (c_X12_isIn G hv1 x1 0 ((aI hv1 a0 34) - (1 : Int32)) _ hw) yl_X12_isIn (gm7 (List.mem_of_getElem? (i := 189) rfl) rfl) (gm7 (List.mem_of_getElem? (i := 190) rfl) rfl) (by decide) rfl (Nat.le_of_ble_eq_true rfl) dX12_judgedAt_13 rfl (kI fun hv2 iv3 hw => ?_)
  refine r_if_eq C dX12_judgedAt_16 41 (by decide) (fun hc => ?_) (fun hc => ?_)
  · replace hw := hw.1 hc
    refine r_iconst (v := (-1)) C dX12_judgedAt_41 (by decide) ?_
    exact r_iret C hr dX12_judgedAt_42 hw
  · replace hw := hw.2 hc
    refine r_iload_n C dX12_judgedAt_19 2 rfl ?_
    refine r_iconst (v := 0) C dX12_judgedAt_20 (by decide) ?_
    refine r_iconst (v := 2) C dX12_judgedAt_21 (by decide) ?_
    refine r_callS C (As := [.int x2, .int 0, .int 2]) (rest := []) (c_X12_isIn G hv2 x2 0 2 _ hw) yl_X12_isIn (gm7 (List.mem_of_getElem? (i := 189) rfl) rfl) (gm7 (List.mem_of_getElem? (i := 190) rfl) rfl) (by decide) rfl (Nat.le_of_ble_eq_true rfl) dX12_judgedAt_22 rfl (kI fun hv4 iv5 hw => ?_)
    refine r_if_eq C dX12_judgedAt_25 41 (by decide) (fun hc => ?_) (fun hc => ?_)
    · replace hw := hw.1 hc
      refine r_iconst (v := (-1)) C dX12_judgedAt_41 (by decide) ?_
      exact r_iret C hr dX12_judgedAt_42 hw
    · replace hw := hw.2 hc
      refine r_aload_n C dX12_judgedAt_28 0 rfl ?_
      have hob := hw.1
      obtain ⟨rv6, hp, hw⟩ := hw.2
      refine r_getP C fl_RX12_62_11 hob hp (fun _ _ _ => rfl) dX12_judgedAt_29 ?_
      refine r_iconst (v := 3) C dX12_judgedAt_32 (by decide) ?_
      refine r_iload_n C dX12_judgedAt_33 1 rfl ?_
      refine r_imul C dX12_judgedAt_34 ?_
      refine r_iload_n C dX12_judgedAt_35 2 rfl ?_
      refine r_iadd C dX12_judgedAt_36 ?_
      refine r_iaload C hw.1 hw.2.1 dX12_judgedAt_37 ?_
      replace hw := hw.2.2
      refine r_goto C dX12_judgedAt_38 42 (by decide) ?_
      exact r_iret C hr dX12_judgedAt_42 hw
theorem dX12_tooMany_0 : decode cX12_tooMany 0 = .ok (.aload_n 0, 1) := by decide +kernel
theorem dX12_tooMany_1 : decode cX12_tooMany 1 = .ok (.iconst 0, 1) := by decide +kernel
theorem dX12_tooMany_2 : decode cX12_tooMany 2 = .ok (.putfield 1, 3) := by decide +kernel
theorem dX12_tooMany_5 : decode cX12_tooMany 5 = .ok (.iload_n 1, 1) := by decide +kernel
theorem dX12_tooMany_6 : decode cX12_tooMany 6 = .ok (.invokestatic 393, 3) := by decide +kernel
theorem dX12_tooMany_9 : decode cX12_tooMany 9 = .ok (.ifCond .ne 6, 3) := by decide +kernel
theorem dX12_tooMany_12 : decode cX12_tooMany 12 = .ok (.bipush (-2), 2) := by decide +kernel
theorem dX12_tooMany_14 : decode cX12_tooMany 14 = .ok (.ireturn, 1) := by decide +kernel
theorem dX12_tooMany_15 : decode cX12_tooMany 15 = .ok (.iconst 0, 1) := by decide +kernel
theorem dX12_tooMany_16 : decode cX12_tooMany 16 = .ok (.istore_n 2, 1) := by decide +kernel
theorem dX12_tooMany_17 : decode cX12_tooMany 17 = .ok (.iload_n 2, 1) := by decide +kernel
theorem dX12_tooMany_18 : decode cX12_tooMany 18 = .ok (.aload_n 0, 1) := by decide +kernel
theorem dX12_tooMany_19 : decode cX12_tooMany 19 = .ok (.getfield 33, 3) := by decide +kernel
theorem dX12_tooMany_22 : decode cX12_tooMany 22 = .ok (.sipush 249, 3) := by decide +kernel
theorem dX12_tooMany_25 : decode cX12_tooMany 25 = .ok (.iaload, 1) := by decide +kernel
theorem dX12_tooMany_26 : decode cX12_tooMany 26 = .ok (.if_icmp .ge 21, 3) := by decide +kernel
theorem dX12_tooMany_29 : decode cX12_tooMany 29 = .ok (.aload_n 0, 1) := by decide +kernel
theorem dX12_tooMany_30 : decode cX12_tooMany 30 = .ok (.iload_n 1, 1) := by decide +kernel
theorem dX12_tooMany_31 : decode cX12_tooMany 31 = .ok (.iload_n 2, 1) := by decide +kernel
theorem dX12_tooMany_32 : decode cX12_tooMany 32 = .ok (.iconst (-1), 1) := by decide +kernel
theorem dX12_tooMany_33 : decode cX12_tooMany 33 = .ok (.invokevirtual 396, 3) := by decide +kernel
theorem dX12_tooMany_36 : decode cX12_tooMany 36 = .ok (.ifCond .ge 5, 3) := by decide +kernel
theorem dX12_tooMany_39 : decode cX12_tooMany 39 = .ok (.iload_n 2, 1) := by decide +kernel
theorem dX12_tooMany_40 : decode cX12_tooMany 40 = .ok (.ireturn, 1) := by decide +kernel
theorem dX12_tooMany_41 : decode cX12_tooMany 41 = .ok (.iinc 2 1, 3) := by decide +kernel
theorem dX12_tooMany_44 : decode cX12_tooMany 44 = .ok (.goto (-27), 3) := by decide +kernel
theorem dX12_tooMany_47 : decode cX12_tooMany 47 = .ok (.iconst (-1), 1) := by decide +kernel
theorem dX12_tooMany_48 : decode cX12_tooMany 48 = .ok (.ireturn, 1) := by decide +kernel
def wb_X12_tooMany_17 (K17 : AH → Nat → Int32 → Int32 → Prop) (h : AH) (al0 : Nat) (xl1 : Int32) (xl2 : Int32)  (post : AH → Int32 → Prop) : Prop := (ob h al0 11) ∧ (∃ rv1, aP h al0 6 = some rv1 ∧ ((ob h rv1 13) ∧ ((vp_in 249 (aL h rv1)) ∧ (((aI h rv1 (249 : Int32).toNatClampNeg) ≤ xl2 → (post h (-1))) ∧ (¬ (aI h rv1 (249 : Int32).toNatClampNeg) ≤ xl2 → ((ob h al0 11) ∧ wp_X12_run h al0 xl1 xl2 (-1) (fun hv2 iv3 => (0 ≤ iv3 → (∀ iv4 : Int32, iv4 = xl2 + 1 → (K17 hv2 al0 xl1 iv4))) ∧ (¬ 0 ≤ iv3 → (post hv2 xl2)))))))))
set_option maxRecDepth 100000 in
theorem tb_X12_tooMany_17 {G : GG} {p : Program} {l : Launch} {e : Env} {R : Room} {s : State} {m : MethodId} {args : Array Value} {below : List Frame} {meth : Method} {c : Code} {n0 s0 : Nat} {post : AH → Int32 → Prop} (C : Cx G p R s m args meth c 3 cX12_tooMany RX12 n0 s0 5 125) (hr : meth.sig.returnType = (some .int)) {K17 : AH → Nat → Int32 → Int32 → Prop} (hK17 : ∀ (h : AH) (al0 : Nat) (xl1 : Int32) (xl2 : Int32), K17 h al0 xl1 xl2 → AW G p l e R s m args below meth c 3 (QM G (pI post) args s below n0 s0) 17 [(0, .ref (G.1 + al0)), (1, .int xl1), (2, .int xl2)] [] h) {h : AH} {al0 : Nat} {xl1 : Int32} {xl2 : Int32}  (hw : wb_X12_tooMany_17 K17 h al0 xl1 xl2 post) : AW G p l e R s m args below meth c 3 (QM G (pI post) args s below n0 s0) 17 [(0, .ref (G.1 + al0)), (1, .int xl1), (2, .int xl2)] [] h := by
  unfold wb_X12_tooMany_17 at hw
  refine r_iload_n C dX12_tooMany_17 2 rfl ?_
  refine r_aload_n C dX12_tooMany_18 0 rfl ?_
  have hob := hw.1
  obtain ⟨rv1, hp, hw⟩ := hw.2
  refine r_getP C fl_RX12_33_11 hob hp (fun _ _ _ => rfl) dX12_tooMany_19 ?_
  refine r_sipush (v := 249) C dX12_tooMany_22 (by decide) ?_
  refine r_iaload C hw.1 hw.2.1 dX12_tooMany_25 ?_
  replace hw := hw.2.2
  refine r_icmp_ge C dX12_tooMany_26 47 (by decide) (fun hc => ?_) (fun hc => ?_)
  · replace hw := hw.1 hc
    refine r_iconst (v := (-1)) C dX12_tooMany_47 (by decide) ?_
    exact r_iret C hr dX12_tooMany_48 hw
  · replace hw := hw.2 hc
    refine r_aload_n C dX12_tooMany_29 0 rfl ?_
    refine r_iload_n C dX12_tooMany_30 1 rfl ?_
    refine r_iload_n C dX12_tooMany_31 2 rfl ?_
    refine r_iconst (v := (-1)) C dX12_tooMany_32 (by decide) ?_
    have hob := hw.1
    replace hw := hw.2
    refine r_callV C (As := [.int xl1, .int xl2, .int (-1)]) (rest := []) (c_X12_run G h al0 xl1 xl2 (-1) _ hw) yl_X12_run (gm8 (List.mem_of_getElem? (i := 180) rfl) rfl) (gm8 (List.mem_of_getElem? (i := 182) rfl) rfl) (ci := 11) rfl (by decide) (gsel (List.mem_of_getElem? (i := 89) rfl)) hob (by decide) rfl (Nat.le_of_ble_eq_true rfl) dX12_tooMany_33 rfl (kI fun hv2 iv3 hw => ?_)
    refine r_if_ge C dX12_tooMany_36 41 (by decide) (fun hc => ?_) (fun hc => ?_)
    · replace hw := hw.1 hc
      obtain ⟨iv4, eiv4⟩ : ∃ q : Int32, q = xl2 + 1 := ⟨_, rfl⟩
      replace hw := hw iv4 eiv4
      refine r_iinc C dX12_tooMany_41 2 rfl (by rw [eiv4]; rfl) [(2, .int iv4), (0, .ref (G.1 + al0)), (1, .int xl1)] (by decide) rfl ?_
      refine r_goto C dX12_tooMany_44 17 (by decide) ?_
      refine r_sub [1, 2, 0] rfl ?_
      exact hK17 _ _ _ _ hw
    · replace hw := hw.2 hc
      refine r_iload_n C dX12_tooMany_39 2 rfl ?_
      exact r_iret C hr dX12_tooMany_40 hw
def wl_X12_tooMany_17  (post : AH → Int32 → Prop) : Nat → AH → Nat → Int32 → Int32 → Prop
  | 0 => fun _ _ _ _ => False
  | n + 1 => fun h al0 xl1 xl2 => wb_X12_tooMany_17  (wl_X12_tooMany_17  post n) h al0 xl1 xl2 post
theorem tl_X12_tooMany_17 {G : GG} {p : Program} {l : Launch} {e : Env} {R : Room} {s : State} {m : MethodId} {args : Array Value} {below : List Frame} {meth : Method} {c : Code} {n0 s0 : Nat} {post : AH → Int32 → Prop} (C : Cx G p R s m args meth c 3 cX12_tooMany RX12 n0 s0 5 125) (hr : meth.sig.returnType = (some .int))   : ∀ (n : Nat) (h : AH) (al0 : Nat) (xl1 : Int32) (xl2 : Int32), wl_X12_tooMany_17  post n h al0 xl1 xl2 → AW G p l e R s m args below meth c 3 (QM G (pI post) args s below n0 s0) 17 [(0, .ref (G.1 + al0)), (1, .int xl1), (2, .int xl2)] [] h := by
  intro n
  induction n with
  | zero => intro h al0 xl1 xl2 hw; exact hw.elim
  | succ n ih => intro h al0 xl1 xl2 hw; exact tb_X12_tooMany_17 C hr  ih hw
def wp_X12_tooMany (h : AH) (a0 : Nat) (x1 : Int32) (post : AH → Int32 → Prop) : Prop := (ob h a0 11) ∧ (∀ hv1 : AH, hv1 = hI h a0 0 0 → (wp_X12_isQuarter hv1 x1 (fun hv2 iv3 => (¬ iv3 = 0 → (∃ n, wl_X12_tooMany_17  post n hv2 a0 x1 0)) ∧ (iv3 = 0 → (post hv2 (-2))))))
set_option maxRecDepth 100000 in
theorem c_X12_tooMany (G : GG) (h : AH) (a0 : Nat) (x1 : Int32) (post : AH → Int32 → Prop) (hw : wp_X12_tooMany h a0 x1 post) : MC G yX12_tooMany cX12_tooMany 3 (some .int) 5 125 h [.ref (G.1 + a0), .int x1] (pI post) := by
  refine MC.of (lv := [(0, .ref (G.1 + a0)), (1, .int x1)]) (by decide) (Nat.le_of_ble_eq_true rfl) rfl fun p l e R s m args below meth c C hr hnm => ?_
  unfold wp_X12_tooMany at hw
  refine r_aload_n C dX12_tooMany_0 0 rfl ?_
  refine r_iconst (v := 0) C dX12_tooMany_1 (by decide) ?_
  refine r_putI C fp_RX12_1_11 hw.1 rfl dX12_tooMany_2 ?_
  replace hw := hw.2
  refine r_toph fun hv1 ehv1 => ?_
  replace hw := hw hv1 ehv1
  refine r_iload_n C dX12_tooMany_5 1 rfl ?_
  refine r_callS C (As := [.int x1]) (rest := []) (c_X12_isQuarter G hv1 x1 _ hw) yl_X12_isQuarter (gm8 (List.mem_of_getElem? (i := 177) rfl) rfl) (gm8 (List.mem_of_getElem? (i := 178) rfl) rfl) (by decide) rfl (Nat.le_of_ble_eq_true rfl) dX12_tooMany_6 rfl (kI fun hv2 iv3 hw => ?_)
  refine r_if_ne C dX12_tooMany_9 15 (by decide) (fun hc => ?_) (fun hc => ?_)
  · replace hw := hw.1 hc
    refine r_iconst (v := 0) C dX12_tooMany_15 (by decide) ?_
    refine r_istore_n C dX12_tooMany_16 [(2, .int 0), (0, .ref (G.1 + a0)), (1, .int x1)] (by decide) rfl ?_
    refine r_sub [1, 2, 0] rfl ?_
    obtain ⟨n, hw⟩ := hw
    exact tl_X12_tooMany_17 C hr  n _ _ _ _ hw
  · replace hw := hw.2 hc
    refine r_bipush (v := (-2)) C dX12_tooMany_12 (by decide) ?_
    exact r_iret C hr dX12_tooMany_14 hw
theorem dX12_instead_0 : decode cX12_instead 0 = .ok (.aload_n 0, 1) := by decide +kernel
theorem dX12_instead_1 : decode cX12_instead 1 = .ok (.iconst 0, 1) := by decide +kernel
theorem dX12_instead_2 : decode cX12_instead 2 = .ok (.putfield 1, 3) := by decide +kernel
theorem dX12_instead_5 : decode cX12_instead 5 = .ok (.iload_n 1, 1) := by decide +kernel
theorem dX12_instead_6 : decode cX12_instead 6 = .ok (.invokestatic 393, 3) := by decide +kernel
theorem dX12_instead_9 : decode cX12_instead 9 = .ok (.ifCond .ne 6, 3) := by decide +kernel
theorem dX12_instead_12 : decode cX12_instead 12 = .ok (.bipush (-2), 2) := by decide +kernel
theorem dX12_instead_14 : decode cX12_instead 14 = .ok (.ireturn, 1) := by decide +kernel
theorem dX12_instead_15 : decode cX12_instead 15 = .ok (.iconst 0, 1) := by decide +kernel
theorem dX12_instead_16 : decode cX12_instead 16 = .ok (.istore_n 2, 1) := by decide +kernel
theorem dX12_instead_17 : decode cX12_instead 17 = .ok (.iload_n 2, 1) := by decide +kernel
theorem dX12_instead_18 : decode cX12_instead 18 = .ok (.aload_n 0, 1) := by decide +kernel
theorem dX12_instead_19 : decode cX12_instead 19 = .ok (.getfield 33, 3) := by decide +kernel
theorem dX12_instead_22 : decode cX12_instead 22 = .ok (.sipush 249, 3) := by decide +kernel
theorem dX12_instead_25 : decode cX12_instead 25 = .ok (.iaload, 1) := by decide +kernel
theorem dX12_instead_26 : decode cX12_instead 26 = .ok (.if_icmp .ge 71, 3) := by decide +kernel
theorem dX12_instead_29 : decode cX12_instead 29 = .ok (.iconst 0, 1) := by decide +kernel
theorem dX12_instead_30 : decode cX12_instead 30 = .ok (.istore_n 3, 1) := by decide +kernel
theorem dX12_instead_31 : decode cX12_instead 31 = .ok (.iload_n 3, 1) := by decide +kernel
theorem dX12_instead_32 : decode cX12_instead 32 = .ok (.iconst 4, 1) := by decide +kernel
theorem dX12_instead_33 : decode cX12_instead 33 = .ok (.if_icmp .gt 58, 3) := by decide +kernel
theorem dX12_instead_36 : decode cX12_instead 36 = .ok (.aload_n 0, 1) := by decide +kernel
theorem dX12_instead_37 : decode cX12_instead 37 = .ok (.getfield 33, 3) := by decide +kernel
theorem dX12_instead_40 : decode cX12_instead 40 = .ok (.sipush 250, 3) := by decide +kernel
theorem dX12_instead_43 : decode cX12_instead 43 = .ok (.iconst 2, 1) := by decide +kernel
theorem dX12_instead_44 : decode cX12_instead 44 = .ok (.iload_n 2, 1) := by decide +kernel
theorem dX12_instead_45 : decode cX12_instead 45 = .ok (.imul, 1) := by decide +kernel
theorem dX12_instead_46 : decode cX12_instead 46 = .ok (.iadd, 1) := by decide +kernel
theorem dX12_instead_47 : decode cX12_instead 47 = .ok (.iaload, 1) := by decide +kernel
theorem dX12_instead_48 : decode cX12_instead 48 = .ok (.iconst 5, 1) := by decide +kernel
theorem dX12_instead_49 : decode cX12_instead 49 = .ok (.if_icmp .eq 42, 3) := by decide +kernel
theorem dX12_instead_52 : decode cX12_instead 52 = .ok (.iload_n 3, 1) := by decide +kernel
theorem dX12_instead_53 : decode cX12_instead 53 = .ok (.aload_n 0, 1) := by decide +kernel
theorem dX12_instead_54 : decode cX12_instead 54 = .ok (.getfield 33, 3) := by decide +kernel
theorem dX12_instead_57 : decode cX12_instead 57 = .ok (.sipush 250, 3) := by decide +kernel
theorem dX12_instead_60 : decode cX12_instead 60 = .ok (.iconst 2, 1) := by decide +kernel
theorem dX12_instead_61 : decode cX12_instead 61 = .ok (.iload_n 2, 1) := by decide +kernel
theorem dX12_instead_62 : decode cX12_instead 62 = .ok (.imul, 1) := by decide +kernel
theorem dX12_instead_63 : decode cX12_instead 63 = .ok (.iadd, 1) := by decide +kernel
theorem dX12_instead_64 : decode cX12_instead 64 = .ok (.iaload, 1) := by decide +kernel
theorem dX12_instead_65 : decode cX12_instead 65 = .ok (.if_icmp .eq 20, 3) := by decide +kernel
theorem dX12_instead_68 : decode cX12_instead 68 = .ok (.aload_n 0, 1) := by decide +kernel
theorem dX12_instead_69 : decode cX12_instead 69 = .ok (.iload_n 1, 1) := by decide +kernel
theorem dX12_instead_70 : decode cX12_instead 70 = .ok (.iload_n 2, 1) := by decide +kernel
theorem dX12_instead_71 : decode cX12_instead 71 = .ok (.iload_n 3, 1) := by decide +kernel
theorem dX12_instead_72 : decode cX12_instead 72 = .ok (.invokevirtual 396, 3) := by decide +kernel
theorem dX12_instead_75 : decode cX12_instead 75 = .ok (.ifCond .ge 10, 3) := by decide +kernel
theorem dX12_instead_78 : decode cX12_instead 78 = .ok (.bipush 10, 2) := by decide +kernel
theorem dX12_instead_80 : decode cX12_instead 80 = .ok (.iload_n 2, 1) := by decide +kernel
theorem dX12_instead_81 : decode cX12_instead 81 = .ok (.imul, 1) := by decide +kernel
theorem dX12_instead_82 : decode cX12_instead 82 = .ok (.iload_n 3, 1) := by decide +kernel
theorem dX12_instead_83 : decode cX12_instead 83 = .ok (.iadd, 1) := by decide +kernel
theorem dX12_instead_84 : decode cX12_instead 84 = .ok (.ireturn, 1) := by decide +kernel
theorem dX12_instead_85 : decode cX12_instead 85 = .ok (.iinc 3 1, 3) := by decide +kernel
theorem dX12_instead_88 : decode cX12_instead 88 = .ok (.goto (-57), 3) := by decide +kernel
theorem dX12_instead_91 : decode cX12_instead 91 = .ok (.iinc 2 1, 3) := by decide +kernel
theorem dX12_instead_94 : decode cX12_instead 94 = .ok (.goto (-77), 3) := by decide +kernel
theorem dX12_instead_97 : decode cX12_instead 97 = .ok (.iconst (-1), 1) := by decide +kernel
theorem dX12_instead_98 : decode cX12_instead 98 = .ok (.ireturn, 1) := by decide +kernel
def wb_X12_instead_91 (K17 : AH → Nat → Int32 → Int32 → Prop) (h : AH) (al0 : Nat) (xl1 : Int32) (xl2 : Int32)  (post : AH → Int32 → Prop) : Prop := ∀ iv1 : Int32, iv1 = xl2 + 1 → (K17 h al0 xl1 iv1)
set_option maxRecDepth 100000 in
theorem tb_X12_instead_91 {G : GG} {p : Program} {l : Launch} {e : Env} {R : Room} {s : State} {m : MethodId} {args : Array Value} {below : List Frame} {meth : Method} {c : Code} {n0 s0 : Nat} {post : AH → Int32 → Prop} (C : Cx G p R s m args meth c 4 cX12_instead RX12 n0 s0 5 125) (hr : meth.sig.returnType = (some .int)) {K17 : AH → Nat → Int32 → Int32 → Prop} (hK17 : ∀ (h : AH) (al0 : Nat) (xl1 : Int32) (xl2 : Int32), K17 h al0 xl1 xl2 → AW G p l e R s m args below meth c 4 (QM G (pI post) args s below n0 s0) 17 [(0, .ref (G.1 + al0)), (1, .int xl1), (2, .int xl2)] [] h) {h : AH} {al0 : Nat} {xl1 : Int32} {xl2 : Int32}  (hw : wb_X12_instead_91 K17 h al0 xl1 xl2 post) : AW G p l e R s m args below meth c 4 (QM G (pI post) args s below n0 s0) 91 [(0, .ref (G.1 + al0)), (1, .int xl1), (2, .int xl2)] [] h := by
  unfold wb_X12_instead_91 at hw
  obtain ⟨iv1, eiv1⟩ : ∃ q : Int32, q = xl2 + 1 := ⟨_, rfl⟩
  replace hw := hw iv1 eiv1
  refine r_iinc C dX12_instead_91 2 rfl (by rw [eiv1]; rfl) [(2, .int iv1), (0, .ref (G.1 + al0)), (1, .int xl1)] (by decide) rfl ?_
  refine r_goto C dX12_instead_94 17 (by decide) ?_
  refine r_sub [1, 2, 0] rfl ?_
  exact hK17 _ _ _ _ hw
def wb_X12_instead_85 (K17 : AH → Nat → Int32 → Int32 → Prop) (K31 : AH → Nat → Int32 → Int32 → Int32 → Prop) (h : AH) (al0 : Nat) (xl1 : Int32) (xl2 : Int32) (xl3 : Int32)  (post : AH → Int32 → Prop) : Prop := ∀ iv1 : Int32, iv1 = xl3 + 1 → (K31 h al0 xl1 xl2 iv1)
set_option maxRecDepth 100000 in
theorem tb_X12_instead_85 {G : GG} {p : Program} {l : Launch} {e : Env} {R : Room} {s : State} {m : MethodId} {args : Array Value} {below : List Frame} {meth : Method} {c : Code} {n0 s0 : Nat} {post : AH → Int32 → Prop} (C : Cx G p R s m args meth c 4 cX12_instead RX12 n0 s0 5 125) (hr : meth.sig.returnType = (some .int)) {K17 : AH → Nat → Int32 → Int32 → Prop} {K31 : AH → Nat → Int32 → Int32 → Int32 → Prop} (hK17 : ∀ (h : AH) (al0 : Nat) (xl1 : Int32) (xl2 : Int32), K17 h al0 xl1 xl2 → AW G p l e R s m args below meth c 4 (QM G (pI post) args s below n0 s0) 17 [(0, .ref (G.1 + al0)), (1, .int xl1), (2, .int xl2)] [] h) (hK31 : ∀ (h : AH) (al0 : Nat) (xl1 : Int32) (xl2 : Int32) (xl3 : Int32), K31 h al0 xl1 xl2 xl3 → AW G p l e R s m args below meth c 4 (QM G (pI post) args s below n0 s0) 31 [(0, .ref (G.1 + al0)), (1, .int xl1), (2, .int xl2), (3, .int xl3)] [] h) {h : AH} {al0 : Nat} {xl1 : Int32} {xl2 : Int32} {xl3 : Int32}  (hw : wb_X12_instead_85 K17 K31 h al0 xl1 xl2 xl3 post) : AW G p l e R s m args below meth c 4 (QM G (pI post) args s below n0 s0) 85 [(0, .ref (G.1 + al0)), (1, .int xl1), (2, .int xl2), (3, .int xl3)] [] h := by
  unfold wb_X12_instead_85 at hw
  obtain ⟨iv1, eiv1⟩ : ∃ q : Int32, q = xl3 + 1 := ⟨_, rfl⟩
  replace hw := hw iv1 eiv1
  refine r_iinc C dX12_instead_85 3 rfl (by rw [eiv1]; rfl) [(3, .int iv1), (0, .ref (G.1 + al0)), (1, .int xl1), (2, .int xl2)] (by decide) rfl ?_
  refine r_goto C dX12_instead_88 31 (by decide) ?_
  refine r_sub [1, 2, 3, 0] rfl ?_
  exact hK31 _ _ _ _ _ hw
def wb_X12_instead_31 (K17 : AH → Nat → Int32 → Int32 → Prop) (K31 : AH → Nat → Int32 → Int32 → Int32 → Prop) (h : AH) (al0 : Nat) (xl1 : Int32) (xl2 : Int32) (xl3 : Int32)  (post : AH → Int32 → Prop) : Prop := (4 < xl3 → (wb_X12_instead_91 K17 h al0 xl1 xl2 post)) ∧ (¬ 4 < xl3 → ((ob h al0 11) ∧ (∃ rv1, aP h al0 6 = some rv1 ∧ ((ob h rv1 13) ∧ ((vp_in ((250 : Int32) + ((2 : Int32) * xl2)) (aL h rv1)) ∧ (((aI h rv1 ((250 : Int32) + ((2 : Int32) * xl2)).toNatClampNeg) = 5 → (wb_X12_instead_91 K17 h al0 xl1 xl2 post)) ∧ (¬ (aI h rv1 ((250 : Int32) + ((2 : Int32) * xl2)).toNatClampNeg) = 5 → ((ob h al0 11) ∧ (∃ rv2, aP h al0 6 = some rv2 ∧ ((ob h rv2 13) ∧ ((vp_in ((250 : Int32) + ((2 : Int32) * xl2)) (aL h rv2)) ∧ ((xl3 = (aI h rv2 ((250 : Int32) + ((2 : Int32) * xl2)).toNatClampNeg) → (wb_X12_instead_85 K17 K31 h al0 xl1 xl2 xl3 post)) ∧ (¬ xl3 = (aI h rv2 ((250 : Int32) + ((2 : Int32) * xl2)).toNatClampNeg) → ((ob h al0 11) ∧ wp_X12_run h al0 xl1 xl2 xl3 (fun hv3 iv4 => (0 ≤ iv4 → (wb_X12_instead_85 K17 K31 hv3 al0 xl1 xl2 xl3 post)) ∧ (¬ 0 ≤ iv4 → (post hv3 (((10 : Int32) * xl2) + xl3))))))))))))))))))
set_option maxRecDepth 100000 in
theorem tb_X12_instead_31 {G : GG} {p : Program} {l : Launch} {e : Env} {R : Room} {s : State} {m : MethodId} {args : Array Value} {below : List Frame} {meth : Method} {c : Code} {n0 s0 : Nat} {post : AH → Int32 → Prop} (C : Cx G p R s m args meth c 4 cX12_instead RX12 n0 s0 5 125) (hr : meth.sig.returnType = (some .int)) {K17 : AH → Nat → Int32 → Int32 → Prop} {K31 : AH → Nat → Int32 → Int32 → Int32 → Prop} (hK17 : ∀ (h : AH) (al0 : Nat) (xl1 : Int32) (xl2 : Int32), K17 h al0 xl1 xl2 → AW G p l e R s m args below meth c 4 (QM G (pI post) args s below n0 s0) 17 [(0, .ref (G.1 + al0)), (1, .int xl1), (2, .int xl2)] [] h) (hK31 : ∀ (h : AH) (al0 : Nat) (xl1 : Int32) (xl2 : Int32) (xl3 : Int32), K31 h al0 xl1 xl2 xl3 → AW G p l e R s m args below meth c 4 (QM G (pI post) args s below n0 s0) 31 [(0, .ref (G.1 + al0)), (1, .int xl1), (2, .int xl2), (3, .int xl3)] [] h) {h : AH} {al0 : Nat} {xl1 : Int32} {xl2 : Int32} {xl3 : Int32}  (hw : wb_X12_instead_31 K17 K31 h al0 xl1 xl2 xl3 post) : AW G p l e R s m args below meth c 4 (QM G (pI post) args s below n0 s0) 31 [(0, .ref (G.1 + al0)), (1, .int xl1), (2, .int xl2), (3, .int xl3)] [] h := by
  unfold wb_X12_instead_31 at hw
  refine r_iload_n C dX12_instead_31 3 rfl ?_
  refine r_iconst (v := 4) C dX12_instead_32 (by decide) ?_
  refine r_icmp_gt C dX12_instead_33 91 (by decide) (fun hc => ?_) (fun hc => ?_)
  · replace hw := hw.1 hc
    refine r_sub [0, 1, 2] rfl ?_
    exact tb_X12_instead_91 C hr hK17 hw
  · replace hw := hw.2 hc
    refine r_aload_n C dX12_instead_36 0 rfl ?_
    have hob := hw.1
    obtain ⟨rv1, hp, hw⟩ := hw.2
    refine r_getP C fl_RX12_33_11 hob hp (fun _ _ _ => rfl) dX12_instead_37 ?_
    refine r_sipush (v := 250) C dX12_instead_40 (by decide) ?_
    refine r_iconst (v := 2) C dX12_instead_43 (by decide) ?_
    refine r_iload_n C dX12_instead_44 2 rfl ?_
    refine r_imul C dX12_instead_45 ?_
    refine r_iadd C dX12_instead_46 ?_
    refine r_iaload C hw.1 hw.2.1 dX12_instead_47 ?_
    replace hw := hw.2.2
    refine r_iconst (v := 5) C dX12_instead_48 (by decide) ?_
    refine r_icmp_eq C dX12_instead_49 91 (by decide) (fun hc => ?_) (fun hc => ?_)
    · replace hw := hw.1 hc
      refine r_sub [0, 1, 2] rfl ?_
      exact tb_X12_instead_91 C hr hK17 hw
    · replace hw := hw.2 hc
      refine r_iload_n C dX12_instead_52 3 rfl ?_
      refine r_aload_n C dX12_instead_53 0 rfl ?_
      have hob := hw.1
      obtain ⟨rv2, hp, hw⟩ := hw.2
      refine r_getP C fl_RX12_33_11 hob hp (fun _ _ _ => rfl) dX12_instead_54 ?_
      refine r_sipush (v := 250) C dX12_instead_57 (by decide) ?_
      refine r_iconst (v := 2) C dX12_instead_60 (by decide) ?_
      refine r_iload_n C dX12_instead_61 2 rfl ?_
      refine r_imul C dX12_instead_62 ?_
      refine r_iadd C dX12_instead_63 ?_
      refine r_iaload C hw.1 hw.2.1 dX12_instead_64 ?_
      replace hw := hw.2.2
      refine r_icmp_eq C dX12_instead_65 85 (by decide) (fun hc => ?_) (fun hc => ?_)
      · replace hw := hw.1 hc
        refine r_sub [0, 1, 2, 3] rfl ?_
        exact tb_X12_instead_85 C hr hK17 hK31 hw
      · replace hw := hw.2 hc
        refine r_aload_n C dX12_instead_68 0 rfl ?_
        refine r_iload_n C dX12_instead_69 1 rfl ?_
        refine r_iload_n C dX12_instead_70 2 rfl ?_
        refine r_iload_n C dX12_instead_71 3 rfl ?_
        have hob := hw.1
        replace hw := hw.2
        refine r_callV C (As := [.int xl1, .int xl2, .int xl3]) (rest := []) (c_X12_run G h al0 xl1 xl2 xl3 _ hw) yl_X12_run (gm8 (List.mem_of_getElem? (i := 180) rfl) rfl) (gm8 (List.mem_of_getElem? (i := 182) rfl) rfl) (ci := 11) rfl (by decide) (gsel (List.mem_of_getElem? (i := 89) rfl)) hob (by decide) rfl (Nat.le_of_ble_eq_true rfl) dX12_instead_72 rfl (kI fun hv3 iv4 hw => ?_)
        refine r_if_ge C dX12_instead_75 85 (by decide) (fun hc => ?_) (fun hc => ?_)
        · replace hw := hw.1 hc
          refine r_sub [0, 1, 2, 3] rfl ?_
          exact tb_X12_instead_85 C hr hK17 hK31 hw
        · replace hw := hw.2 hc
          refine r_bipush (v := 10) C dX12_instead_78 (by decide) ?_
          refine r_iload_n C dX12_instead_80 2 rfl ?_
          refine r_imul C dX12_instead_81 ?_
          refine r_iload_n C dX12_instead_82 3 rfl ?_
          refine r_iadd C dX12_instead_83 ?_
          exact r_iret C hr dX12_instead_84 hw
def wl_X12_instead_31 (K17 : AH → Nat → Int32 → Int32 → Prop) (post : AH → Int32 → Prop) : Nat → AH → Nat → Int32 → Int32 → Int32 → Prop
  | 0 => fun _ _ _ _ _ => False
  | n + 1 => fun h al0 xl1 xl2 xl3 => wb_X12_instead_31 K17 (wl_X12_instead_31 K17 post n) h al0 xl1 xl2 xl3 post
theorem tl_X12_instead_31 {G : GG} {p : Program} {l : Launch} {e : Env} {R : Room} {s : State} {m : MethodId} {args : Array Value} {below : List Frame} {meth : Method} {c : Code} {n0 s0 : Nat} {post : AH → Int32 → Prop} (C : Cx G p R s m args meth c 4 cX12_instead RX12 n0 s0 5 125) (hr : meth.sig.returnType = (some .int)) {K17 : AH → Nat → Int32 → Int32 → Prop} (hK17 : ∀ (h : AH) (al0 : Nat) (xl1 : Int32) (xl2 : Int32), K17 h al0 xl1 xl2 → AW G p l e R s m args below meth c 4 (QM G (pI post) args s below n0 s0) 17 [(0, .ref (G.1 + al0)), (1, .int xl1), (2, .int xl2)] [] h) : ∀ (n : Nat) (h : AH) (al0 : Nat) (xl1 : Int32) (xl2 : Int32) (xl3 : Int32), wl_X12_instead_31 K17 post n h al0 xl1 xl2 xl3 → AW G p l e R s m args below meth c 4 (QM G (pI post) args s below n0 s0) 31 [(0, .ref (G.1 + al0)), (1, .int xl1), (2, .int xl2), (3, .int xl3)] [] h := by
  intro n
  induction n with
  | zero => intro h al0 xl1 xl2 xl3 hw; exact hw.elim
  | succ n ih => intro h al0 xl1 xl2 xl3 hw; exact tb_X12_instead_31 C hr hK17 ih hw
def wb_X12_instead_17 (K17 : AH → Nat → Int32 → Int32 → Prop) (h : AH) (al0 : Nat) (xl1 : Int32) (xl2 : Int32)  (post : AH → Int32 → Prop) : Prop := (ob h al0 11) ∧ (∃ rv1, aP h al0 6 = some rv1 ∧ ((ob h rv1 13) ∧ ((vp_in 249 (aL h rv1)) ∧ (((aI h rv1 (249 : Int32).toNatClampNeg) ≤ xl2 → (post h (-1))) ∧ (¬ (aI h rv1 (249 : Int32).toNatClampNeg) ≤ xl2 → (∃ n, wl_X12_instead_31 K17 post n h al0 xl1 xl2 0))))))
set_option maxRecDepth 100000 in
theorem tb_X12_instead_17 {G : GG} {p : Program} {l : Launch} {e : Env} {R : Room} {s : State} {m : MethodId} {args : Array Value} {below : List Frame} {meth : Method} {c : Code} {n0 s0 : Nat} {post : AH → Int32 → Prop} (C : Cx G p R s m args meth c 4 cX12_instead RX12 n0 s0 5 125) (hr : meth.sig.returnType = (some .int)) {K17 : AH → Nat → Int32 → Int32 → Prop} (hK17 : ∀ (h : AH) (al0 : Nat) (xl1 : Int32) (xl2 : Int32), K17 h al0 xl1 xl2 → AW G p l e R s m args below meth c 4 (QM G (pI post) args s below n0 s0) 17 [(0, .ref (G.1 + al0)), (1, .int xl1), (2, .int xl2)] [] h) {h : AH} {al0 : Nat} {xl1 : Int32} {xl2 : Int32}  (hw : wb_X12_instead_17 K17 h al0 xl1 xl2 post) : AW G p l e R s m args below meth c 4 (QM G (pI post) args s below n0 s0) 17 [(0, .ref (G.1 + al0)), (1, .int xl1), (2, .int xl2)] [] h := by
  unfold wb_X12_instead_17 at hw
  refine r_iload_n C dX12_instead_17 2 rfl ?_
  refine r_aload_n C dX12_instead_18 0 rfl ?_
  have hob := hw.1
  obtain ⟨rv1, hp, hw⟩ := hw.2
  refine r_getP C fl_RX12_33_11 hob hp (fun _ _ _ => rfl) dX12_instead_19 ?_
  refine r_sipush (v := 249) C dX12_instead_22 (by decide) ?_
  refine r_iaload C hw.1 hw.2.1 dX12_instead_25 ?_
  replace hw := hw.2.2
  refine r_icmp_ge C dX12_instead_26 97 (by decide) (fun hc => ?_) (fun hc => ?_)
  · replace hw := hw.1 hc
    refine r_iconst (v := (-1)) C dX12_instead_97 (by decide) ?_
    exact r_iret C hr dX12_instead_98 hw
  · replace hw := hw.2 hc
    refine r_iconst (v := 0) C dX12_instead_29 (by decide) ?_
    refine r_istore_n C dX12_instead_30 [(3, .int 0), (0, .ref (G.1 + al0)), (1, .int xl1), (2, .int xl2)] (by decide) rfl ?_
    refine r_sub [1, 2, 3, 0] rfl ?_
    obtain ⟨n, hw⟩ := hw
    exact tl_X12_instead_31 C hr hK17 n _ _ _ _ _ hw
def wl_X12_instead_17  (post : AH → Int32 → Prop) : Nat → AH → Nat → Int32 → Int32 → Prop
  | 0 => fun _ _ _ _ => False
  | n + 1 => fun h al0 xl1 xl2 => wb_X12_instead_17  (wl_X12_instead_17  post n) h al0 xl1 xl2 post
theorem tl_X12_instead_17 {G : GG} {p : Program} {l : Launch} {e : Env} {R : Room} {s : State} {m : MethodId} {args : Array Value} {below : List Frame} {meth : Method} {c : Code} {n0 s0 : Nat} {post : AH → Int32 → Prop} (C : Cx G p R s m args meth c 4 cX12_instead RX12 n0 s0 5 125) (hr : meth.sig.returnType = (some .int))   : ∀ (n : Nat) (h : AH) (al0 : Nat) (xl1 : Int32) (xl2 : Int32), wl_X12_instead_17  post n h al0 xl1 xl2 → AW G p l e R s m args below meth c 4 (QM G (pI post) args s below n0 s0) 17 [(0, .ref (G.1 + al0)), (1, .int xl1), (2, .int xl2)] [] h := by
  intro n
  induction n with
  | zero => intro h al0 xl1 xl2 hw; exact hw.elim
  | succ n ih => intro h al0 xl1 xl2 hw; exact tb_X12_instead_17 C hr  ih hw
def wp_X12_instead (h : AH) (a0 : Nat) (x1 : Int32) (post : AH → Int32 → Prop) : Prop := (ob h a0 11) ∧ (∀ hv1 : AH, hv1 = hI h a0 0 0 → (wp_X12_isQuarter hv1 x1 (fun hv2 iv3 => (¬ iv3 = 0 → (∃ n, wl_X12_instead_17  post n hv2 a0 x1 0)) ∧ (iv3 = 0 → (post hv2 (-2))))))
set_option maxRecDepth 100000 in
theorem c_X12_instead (G : GG) (h : AH) (a0 : Nat) (x1 : Int32) (post : AH → Int32 → Prop) (hw : wp_X12_instead h a0 x1 post) : MC G yX12_instead cX12_instead 4 (some .int) 5 125 h [.ref (G.1 + a0), .int x1] (pI post) := by
  refine MC.of (lv := [(0, .ref (G.1 + a0)), (1, .int x1)]) (by decide) (Nat.le_of_ble_eq_true rfl) rfl fun p l e R s m args below meth c C hr hnm => ?_
  unfold wp_X12_instead at hw
  refine r_aload_n C dX12_instead_0 0 rfl ?_
  refine r_iconst (v := 0) C dX12_instead_1 (by decide) ?_
  refine r_putI C fp_RX12_1_11 hw.1 rfl dX12_instead_2 ?_
  replace hw := hw.2
  refine r_toph fun hv1 ehv1 => ?_
  replace hw := hw hv1 ehv1
  refine r_iload_n C dX12_instead_5 1 rfl ?_
  refine r_callS C (As := [.int x1]) (rest := []) (c_X12_isQuarter G hv1 x1 _ hw) yl_X12_isQuarter (gm8 (List.mem_of_getElem? (i := 177) rfl) rfl) (gm8 (List.mem_of_getElem? (i := 178) rfl) rfl) (by decide) rfl (Nat.le_of_ble_eq_true rfl) dX12_instead_6 rfl (kI fun hv2 iv3 hw => ?_)
  refine r_if_ne C dX12_instead_9 15 (by decide) (fun hc => ?_) (fun hc => ?_)
  · replace hw := hw.1 hc
    refine r_iconst (v := 0) C dX12_instead_15 (by decide) ?_
    refine r_istore_n C dX12_instead_16 [(2, .int 0), (0, .ref (G.1 + a0)), (1, .int x1)] (by decide) rfl ?_
    refine r_sub [1, 2, 0] rfl ?_
    obtain ⟨n, hw⟩ := hw
    exact tl_X12_instead_17 C hr  n _ _ _ _ hw
  · replace hw := hw.2 hc
    refine r_bipush (v := (-2)) C dX12_instead_12 (by decide) ?_
    exact r_iret C hr dX12_instead_14 hw
theorem dX12_isFew_0 : decode cX12_isFew 0 = .ok (.aload_n 0, 1) := by decide +kernel
theorem dX12_isFew_1 : decode cX12_isFew 1 = .ok (.getfield 33, 3) := by decide +kernel
theorem dX12_isFew_4 : decode cX12_isFew 4 = .ok (.iconst 2, 1) := by decide +kernel
theorem dX12_isFew_5 : decode cX12_isFew 5 = .ok (.iaload, 1) := by decide +kernel
theorem dX12_isFew_6 : decode cX12_isFew 6 = .ok (.iconst 4, 1) := by decide +kernel
theorem dX12_isFew_7 : decode cX12_isFew 7 = .ok (.if_icmp .ge 25, 3) := by decide +kernel
theorem dX12_isFew_10 : decode cX12_isFew 10 = .ok (.aload_n 0, 1) := by decide +kernel
theorem dX12_isFew_11 : decode cX12_isFew 11 = .ok (.getfield 33, 3) := by decide +kernel
theorem dX12_isFew_14 : decode cX12_isFew 14 = .ok (.iconst 0, 1) := by decide +kernel
theorem dX12_isFew_15 : decode cX12_isFew 15 = .ok (.iaload, 1) := by decide +kernel
theorem dX12_isFew_16 : decode cX12_isFew 16 = .ok (.aload_n 0, 1) := by decide +kernel
theorem dX12_isFew_17 : decode cX12_isFew 17 = .ok (.getfield 33, 3) := by decide +kernel
theorem dX12_isFew_20 : decode cX12_isFew 20 = .ok (.iconst 1, 1) := by decide +kernel
theorem dX12_isFew_21 : decode cX12_isFew 21 = .ok (.iaload, 1) := by decide +kernel
theorem dX12_isFew_22 : decode cX12_isFew 22 = .ok (.imul, 1) := by decide +kernel
theorem dX12_isFew_23 : decode cX12_isFew 23 = .ok (.bipush 26, 2) := by decide +kernel
theorem dX12_isFew_25 : decode cX12_isFew 25 = .ok (.if_icmp .ge 7, 3) := by decide +kernel
theorem dX12_isFew_28 : decode cX12_isFew 28 = .ok (.iconst 1, 1) := by decide +kernel
theorem dX12_isFew_29 : decode cX12_isFew 29 = .ok (.goto 4, 3) := by decide +kernel
theorem dX12_isFew_32 : decode cX12_isFew 32 = .ok (.iconst 0, 1) := by decide +kernel
theorem dX12_isFew_33 : decode cX12_isFew 33 = .ok (.ireturn, 1) := by decide +kernel
def wp_X12_isFew (h : AH) (a0 : Nat) (post : AH → Int32 → Prop) : Prop := (ob h a0 11) ∧ (∃ rv1, aP h a0 6 = some rv1 ∧ ((ob h rv1 13) ∧ ((vp_in 2 (aL h rv1)) ∧ ((4 ≤ (aI h rv1 (2 : Int32).toNatClampNeg) → (((0 : Int32) = 0 ∨ (0 : Int32) = 1) ∧ post h 0)) ∧ (¬ 4 ≤ (aI h rv1 (2 : Int32).toNatClampNeg) → ((ob h a0 11) ∧ (∃ rv2, aP h a0 6 = some rv2 ∧ ((ob h rv2 13) ∧ ((vp_in 0 (aL h rv2)) ∧ ((ob h a0 11) ∧ (∃ rv3, aP h a0 6 = some rv3 ∧ ((ob h rv3 13) ∧ ((vp_in 1 (aL h rv3)) ∧ ((26 ≤ ((aI h rv2 (0 : Int32).toNatClampNeg) * (aI h rv3 (1 : Int32).toNatClampNeg)) → (((0 : Int32) = 0 ∨ (0 : Int32) = 1) ∧ post h 0)) ∧ (¬ 26 ≤ ((aI h rv2 (0 : Int32).toNatClampNeg) * (aI h rv3 (1 : Int32).toNatClampNeg)) → (((1 : Int32) = 0 ∨ (1 : Int32) = 1) ∧ post h 1))))))))))))))))
set_option maxRecDepth 100000 in
theorem c_X12_isFew (G : GG) (h : AH) (a0 : Nat) (post : AH → Int32 → Prop) (hw : wp_X12_isFew h a0 post) : MC G yX12_isFew cX12_isFew 1 (some .boolean) 0 0 h [.ref (G.1 + a0)] (pI post) := by
  refine MC.of (lv := [(0, .ref (G.1 + a0))]) (by decide) (Nat.le_of_ble_eq_true rfl) rfl fun p l e R s m args below meth c C hr hnm => ?_
  unfold wp_X12_isFew at hw
  refine r_aload_n C dX12_isFew_0 0 rfl ?_
  have hob := hw.1
  obtain ⟨rv1, hp, hw⟩ := hw.2
  refine r_getP C fl_RX12_33_11 hob hp (fun _ _ _ => rfl) dX12_isFew_1 ?_
  refine r_iconst (v := 2) C dX12_isFew_4 (by decide) ?_
  refine r_iaload C hw.1 hw.2.1 dX12_isFew_5 ?_
  replace hw := hw.2.2
  refine r_iconst (v := 4) C dX12_isFew_6 (by decide) ?_
  refine r_icmp_ge C dX12_isFew_7 32 (by decide) (fun hc => ?_) (fun hc => ?_)
  · replace hw := hw.1 hc
    refine r_iconst (v := 0) C dX12_isFew_32 (by decide) ?_
    exact r_zret C hr dX12_isFew_33 hw.1 hw.2
  · replace hw := hw.2 hc
    refine r_aload_n C dX12_isFew_10 0 rfl ?_
    have hob := hw.1
    obtain ⟨rv2, hp, hw⟩ := hw.2
    refine r_getP C fl_RX12_33_11 hob hp (fun _ _ _ => rfl) dX12_isFew_11 ?_
    refine r_iconst (v := 0) C dX12_isFew_14 (by decide) ?_
    refine r_iaload C hw.1 hw.2.1 dX12_isFew_15 ?_
    replace hw := hw.2.2
    refine r_aload_n C dX12_isFew_16 0 rfl ?_
    have hob := hw.1
    obtain ⟨rv3, hp, hw⟩ := hw.2
    refine r_getP C fl_RX12_33_11 hob hp (fun _ _ _ => rfl) dX12_isFew_17 ?_
    refine r_iconst (v := 1) C dX12_isFew_20 (by decide) ?_
    refine r_iaload C hw.1 hw.2.1 dX12_isFew_21 ?_
    replace hw := hw.2.2
    refine r_imul C dX12_isFew_22 ?_
    refine r_bipush (v := 26) C dX12_isFew_23 (by decide) ?_
    refine r_icmp_ge C dX12_isFew_25 32 (by decide) (fun hc => ?_) (fun hc => ?_)
    · replace hw := hw.1 hc
      refine r_iconst (v := 0) C dX12_isFew_32 (by decide) ?_
      exact r_zret C hr dX12_isFew_33 hw.1 hw.2
    · replace hw := hw.2 hc
      refine r_iconst (v := 1) C dX12_isFew_28 (by decide) ?_
      refine r_goto C dX12_isFew_29 33 (by decide) ?_
      exact r_zret C hr dX12_isFew_33 hw.1 hw.2
theorem dX12_code_0 : decode cX12_code 0 = .ok (.iconst 0, 1) := by decide +kernel
theorem dX12_code_1 : decode cX12_code 1 = .ok (.istore_n 1, 1) := by decide +kernel
theorem dX12_code_2 : decode cX12_code 2 = .ok (.aload_n 0, 1) := by decide +kernel
theorem dX12_code_3 : decode cX12_code 3 = .ok (.getfield 33, 3) := by decide +kernel
theorem dX12_code_6 : decode cX12_code 6 = .ok (.iconst 2, 1) := by decide +kernel
theorem dX12_code_7 : decode cX12_code 7 = .ok (.iaload, 1) := by decide +kernel
theorem dX12_code_8 : decode cX12_code 8 = .ok (.iconst 1, 1) := by decide +kernel
theorem dX12_code_9 : decode cX12_code 9 = .ok (.isub, 1) := by decide +kernel
theorem dX12_code_10 : decode cX12_code 10 = .ok (.istore_n 2, 1) := by decide +kernel
theorem dX12_code_11 : decode cX12_code 11 = .ok (.iload_n 2, 1) := by decide +kernel
theorem dX12_code_12 : decode cX12_code 12 = .ok (.ifCond .lt 54, 3) := by decide +kernel
theorem dX12_code_15 : decode cX12_code 15 = .ok (.bipush 50, 2) := by decide +kernel
theorem dX12_code_17 : decode cX12_code 17 = .ok (.iload_n 1, 1) := by decide +kernel
theorem dX12_code_18 : decode cX12_code 18 = .ok (.imul, 1) := by decide +kernel
theorem dX12_code_19 : decode cX12_code 19 = .ok (.iconst 2, 1) := by decide +kernel
theorem dX12_code_20 : decode cX12_code 20 = .ok (.aload_n 0, 1) := by decide +kernel
theorem dX12_code_21 : decode cX12_code 21 = .ok (.getfield 33, 3) := by decide +kernel
theorem dX12_code_24 : decode cX12_code 24 = .ok (.iconst 0, 1) := by decide +kernel
theorem dX12_code_25 : decode cX12_code 25 = .ok (.iaload, 1) := by decide +kernel
theorem dX12_code_26 : decode cX12_code 26 = .ok (.aload_n 0, 1) := by decide +kernel
theorem dX12_code_27 : decode cX12_code 27 = .ok (.getfield 50, 3) := by decide +kernel
theorem dX12_code_30 : decode cX12_code 30 = .ok (.iconst 3, 1) := by decide +kernel
theorem dX12_code_31 : decode cX12_code 31 = .ok (.iload_n 2, 1) := by decide +kernel
theorem dX12_code_32 : decode cX12_code 32 = .ok (.imul, 1) := by decide +kernel
theorem dX12_code_33 : decode cX12_code 33 = .ok (.iconst 1, 1) := by decide +kernel
theorem dX12_code_34 : decode cX12_code 34 = .ok (.iadd, 1) := by decide +kernel
theorem dX12_code_35 : decode cX12_code 35 = .ok (.iaload, 1) := by decide +kernel
theorem dX12_code_36 : decode cX12_code 36 = .ok (.imul, 1) := by decide +kernel
theorem dX12_code_37 : decode cX12_code 37 = .ok (.aload_n 0, 1) := by decide +kernel
theorem dX12_code_38 : decode cX12_code 38 = .ok (.getfield 50, 3) := by decide +kernel
theorem dX12_code_41 : decode cX12_code 41 = .ok (.iconst 3, 1) := by decide +kernel
theorem dX12_code_42 : decode cX12_code 42 = .ok (.iload_n 2, 1) := by decide +kernel
theorem dX12_code_43 : decode cX12_code 43 = .ok (.imul, 1) := by decide +kernel
theorem dX12_code_44 : decode cX12_code 44 = .ok (.iaload, 1) := by decide +kernel
theorem dX12_code_45 : decode cX12_code 45 = .ok (.iadd, 1) := by decide +kernel
theorem dX12_code_46 : decode cX12_code 46 = .ok (.imul, 1) := by decide +kernel
theorem dX12_code_47 : decode cX12_code 47 = .ok (.iadd, 1) := by decide +kernel
theorem dX12_code_48 : decode cX12_code 48 = .ok (.aload_n 0, 1) := by decide +kernel
theorem dX12_code_49 : decode cX12_code 49 = .ok (.getfield 50, 3) := by decide +kernel
theorem dX12_code_52 : decode cX12_code 52 = .ok (.iconst 3, 1) := by decide +kernel
theorem dX12_code_53 : decode cX12_code 53 = .ok (.iload_n 2, 1) := by decide +kernel
theorem dX12_code_54 : decode cX12_code 54 = .ok (.imul, 1) := by decide +kernel
theorem dX12_code_55 : decode cX12_code 55 = .ok (.iconst 2, 1) := by decide +kernel
theorem dX12_code_56 : decode cX12_code 56 = .ok (.iadd, 1) := by decide +kernel
theorem dX12_code_57 : decode cX12_code 57 = .ok (.iaload, 1) := by decide +kernel
theorem dX12_code_58 : decode cX12_code 58 = .ok (.iadd, 1) := by decide +kernel
theorem dX12_code_59 : decode cX12_code 59 = .ok (.istore_n 1, 1) := by decide +kernel
theorem dX12_code_60 : decode cX12_code 60 = .ok (.iinc 2 (-1), 3) := by decide +kernel
theorem dX12_code_63 : decode cX12_code 63 = .ok (.goto (-52), 3) := by decide +kernel
theorem dX12_code_66 : decode cX12_code 66 = .ok (.iload_n 1, 1) := by decide +kernel
theorem dX12_code_67 : decode cX12_code 67 = .ok (.ireturn, 1) := by decide +kernel
def wb_X12_code_11 (K11 : AH → Nat → Int32 → Int32 → Prop) (h : AH) (al0 : Nat) (xl1 : Int32) (xl2 : Int32)  (post : AH → Int32 → Prop) : Prop := (xl2 < 0 → (post h xl1)) ∧ (¬ xl2 < 0 → ((ob h al0 11) ∧ (∃ rv1, aP h al0 6 = some rv1 ∧ ((ob h rv1 13) ∧ ((vp_in 0 (aL h rv1)) ∧ ((ob h al0 11) ∧ (∃ rv2, aP h al0 24 = some rv2 ∧ ((ob h rv2 13) ∧ ((vp_in (((3 : Int32) * xl2) + (1 : Int32)) (aL h rv2)) ∧ ((ob h al0 11) ∧ (∃ rv3, aP h al0 24 = some rv3 ∧ ((ob h rv3 13) ∧ ((vp_in ((3 : Int32) * xl2) (aL h rv3)) ∧ ((ob h al0 11) ∧ (∃ rv4, aP h al0 24 = some rv4 ∧ ((ob h rv4 13) ∧ ((vp_in (((3 : Int32) * xl2) + (2 : Int32)) (aL h rv4)) ∧ (∀ iv5 : Int32, iv5 = (((50 : Int32) * xl1) + ((2 : Int32) * (((aI h rv1 (0 : Int32).toNatClampNeg) * (aI h rv2 (((3 : Int32) * xl2) + (1 : Int32)).toNatClampNeg)) + (aI h rv3 ((3 : Int32) * xl2).toNatClampNeg)))) + (aI h rv4 (((3 : Int32) * xl2) + (2 : Int32)).toNatClampNeg) → (∀ iv6 : Int32, iv6 = xl2 + (-1) → (K11 h al0 iv5 iv6))))))))))))))))))))
set_option maxRecDepth 100000 in
theorem tb_X12_code_11 {G : GG} {p : Program} {l : Launch} {e : Env} {R : Room} {s : State} {m : MethodId} {args : Array Value} {below : List Frame} {meth : Method} {c : Code} {n0 s0 : Nat} {post : AH → Int32 → Prop} (C : Cx G p R s m args meth c 3 cX12_code RX12 n0 s0 0 0) (hr : meth.sig.returnType = (some .int)) {K11 : AH → Nat → Int32 → Int32 → Prop} (hK11 : ∀ (h : AH) (al0 : Nat) (xl1 : Int32) (xl2 : Int32), K11 h al0 xl1 xl2 → AW G p l e R s m args below meth c 3 (QM G (pI post) args s below n0 s0) 11 [(0, .ref (G.1 + al0)), (1, .int xl1), (2, .int xl2)] [] h) {h : AH} {al0 : Nat} {xl1 : Int32} {xl2 : Int32}  (hw : wb_X12_code_11 K11 h al0 xl1 xl2 post) : AW G p l e R s m args below meth c 3 (QM G (pI post) args s below n0 s0) 11 [(0, .ref (G.1 + al0)), (1, .int xl1), (2, .int xl2)] [] h := by
  unfold wb_X12_code_11 at hw
  refine r_iload_n C dX12_code_11 2 rfl ?_
  refine r_if_lt C dX12_code_12 66 (by decide) (fun hc => ?_) (fun hc => ?_)
  · replace hw := hw.1 hc
    refine r_iload_n C dX12_code_66 1 rfl ?_
    exact r_iret C hr dX12_code_67 hw
  · replace hw := hw.2 hc
    refine r_bipush (v := 50) C dX12_code_15 (by decide) ?_
    refine r_iload_n C dX12_code_17 1 rfl ?_
    refine r_imul C dX12_code_18 ?_
    refine r_iconst (v := 2) C dX12_code_19 (by decide) ?_
    refine r_aload_n C dX12_code_20 0 rfl ?_
    have hob := hw.1
    obtain ⟨rv1, hp, hw⟩ := hw.2
    refine r_getP C fl_RX12_33_11 hob hp (fun _ _ _ => rfl) dX12_code_21 ?_
    refine r_iconst (v := 0) C dX12_code_24 (by decide) ?_
    refine r_iaload C hw.1 hw.2.1 dX12_code_25 ?_
    replace hw := hw.2.2
    refine r_aload_n C dX12_code_26 0 rfl ?_
    have hob := hw.1
    obtain ⟨rv2, hp, hw⟩ := hw.2
    refine r_getP C fl_RX12_50_11 hob hp (fun _ _ _ => rfl) dX12_code_27 ?_
    refine r_iconst (v := 3) C dX12_code_30 (by decide) ?_
    refine r_iload_n C dX12_code_31 2 rfl ?_
    refine r_imul C dX12_code_32 ?_
    refine r_iconst (v := 1) C dX12_code_33 (by decide) ?_
    refine r_iadd C dX12_code_34 ?_
    refine r_iaload C hw.1 hw.2.1 dX12_code_35 ?_
    replace hw := hw.2.2
    refine r_imul C dX12_code_36 ?_
    refine r_aload_n C dX12_code_37 0 rfl ?_
    have hob := hw.1
    obtain ⟨rv3, hp, hw⟩ := hw.2
    refine r_getP C fl_RX12_50_11 hob hp (fun _ _ _ => rfl) dX12_code_38 ?_
    refine r_iconst (v := 3) C dX12_code_41 (by decide) ?_
    refine r_iload_n C dX12_code_42 2 rfl ?_
    refine r_imul C dX12_code_43 ?_
    refine r_iaload C hw.1 hw.2.1 dX12_code_44 ?_
    replace hw := hw.2.2
    refine r_iadd C dX12_code_45 ?_
    refine r_imul C dX12_code_46 ?_
    refine r_iadd C dX12_code_47 ?_
    refine r_aload_n C dX12_code_48 0 rfl ?_
    have hob := hw.1
    obtain ⟨rv4, hp, hw⟩ := hw.2
    refine r_getP C fl_RX12_50_11 hob hp (fun _ _ _ => rfl) dX12_code_49 ?_
    refine r_iconst (v := 3) C dX12_code_52 (by decide) ?_
    refine r_iload_n C dX12_code_53 2 rfl ?_
    refine r_imul C dX12_code_54 ?_
    refine r_iconst (v := 2) C dX12_code_55 (by decide) ?_
    refine r_iadd C dX12_code_56 ?_
    refine r_iaload C hw.1 hw.2.1 dX12_code_57 ?_
    replace hw := hw.2.2
    refine r_iadd C dX12_code_58 ?_
    refine r_topi fun iv5 eiv5 => ?_
    replace hw := hw iv5 eiv5
    refine r_istore_n C dX12_code_59 [(1, .int iv5), (0, .ref (G.1 + al0)), (2, .int xl2)] (by decide) rfl ?_
    obtain ⟨iv6, eiv6⟩ : ∃ q : Int32, q = xl2 + (-1) := ⟨_, rfl⟩
    replace hw := hw iv6 eiv6
    refine r_iinc C dX12_code_60 2 rfl (by rw [eiv6]; rfl) [(2, .int iv6), (1, .int iv5), (0, .ref (G.1 + al0))] (by decide) rfl ?_
    refine r_goto C dX12_code_63 11 (by decide) ?_
    refine r_sub [2, 1, 0] rfl ?_
    exact hK11 _ _ _ _ hw
def wl_X12_code_11  (post : AH → Int32 → Prop) : Nat → AH → Nat → Int32 → Int32 → Prop
  | 0 => fun _ _ _ _ => False
  | n + 1 => fun h al0 xl1 xl2 => wb_X12_code_11  (wl_X12_code_11  post n) h al0 xl1 xl2 post
theorem tl_X12_code_11 {G : GG} {p : Program} {l : Launch} {e : Env} {R : Room} {s : State} {m : MethodId} {args : Array Value} {below : List Frame} {meth : Method} {c : Code} {n0 s0 : Nat} {post : AH → Int32 → Prop} (C : Cx G p R s m args meth c 3 cX12_code RX12 n0 s0 0 0) (hr : meth.sig.returnType = (some .int))   : ∀ (n : Nat) (h : AH) (al0 : Nat) (xl1 : Int32) (xl2 : Int32), wl_X12_code_11  post n h al0 xl1 xl2 → AW G p l e R s m args below meth c 3 (QM G (pI post) args s below n0 s0) 11 [(0, .ref (G.1 + al0)), (1, .int xl1), (2, .int xl2)] [] h := by
  intro n
  induction n with
  | zero => intro h al0 xl1 xl2 hw; exact hw.elim
  | succ n ih => intro h al0 xl1 xl2 hw; exact tb_X12_code_11 C hr  ih hw
def wp_X12_code (h : AH) (a0 : Nat) (post : AH → Int32 → Prop) : Prop := (ob h a0 11) ∧ (∃ rv1, aP h a0 6 = some rv1 ∧ ((ob h rv1 13) ∧ ((vp_in 2 (aL h rv1)) ∧ (∀ iv2 : Int32, iv2 = (aI h rv1 (2 : Int32).toNatClampNeg) - (1 : Int32) → (∃ n, wl_X12_code_11  post n h a0 0 iv2)))))
set_option maxRecDepth 100000 in
theorem c_X12_code (G : GG) (h : AH) (a0 : Nat) (post : AH → Int32 → Prop) (hw : wp_X12_code h a0 post) : MC G yX12_code cX12_code 3 (some .int) 0 0 h [.ref (G.1 + a0)] (pI post) := by
  refine MC.of (lv := [(0, .ref (G.1 + a0))]) (by decide) (Nat.le_of_ble_eq_true rfl) rfl fun p l e R s m args below meth c C hr hnm => ?_
  unfold wp_X12_code at hw
  refine r_iconst (v := 0) C dX12_code_0 (by decide) ?_
  refine r_istore_n C dX12_code_1 [(1, .int 0), (0, .ref (G.1 + a0))] (by decide) rfl ?_
  refine r_aload_n C dX12_code_2 1 rfl ?_
  have hob := hw.1
  obtain ⟨rv1, hp, hw⟩ := hw.2
  refine r_getP C fl_RX12_33_11 hob hp (fun _ _ _ => rfl) dX12_code_3 ?_
  refine r_iconst (v := 2) C dX12_code_6 (by decide) ?_
  refine r_iaload C hw.1 hw.2.1 dX12_code_7 ?_
  replace hw := hw.2.2
  refine r_iconst (v := 1) C dX12_code_8 (by decide) ?_
  refine r_isub C dX12_code_9 ?_
  refine r_topi fun iv2 eiv2 => ?_
  replace hw := hw iv2 eiv2
  refine r_istore_n C dX12_code_10 [(2, .int iv2), (1, .int 0), (0, .ref (G.1 + a0))] (by decide) rfl ?_
  refine r_sub [2, 1, 0] rfl ?_
  obtain ⟨n, hw⟩ := hw
  exact tl_X12_code_11 C hr  n _ _ _ _ hw
theorem dX12_unfold_0 : decode cX12_unfold 0 = .ok (.iload_n 1, 1) := by decide +kernel
theorem dX12_unfold_1 : decode cX12_unfold 1 = .ok (.istore_n 2, 1) := by decide +kernel
theorem dX12_unfold_2 : decode cX12_unfold 2 = .ok (.iconst 0, 1) := by decide +kernel
theorem dX12_unfold_3 : decode cX12_unfold 3 = .ok (.istore_n 3, 1) := by decide +kernel
theorem dX12_unfold_4 : decode cX12_unfold 4 = .ok (.iload_n 3, 1) := by decide +kernel
theorem dX12_unfold_5 : decode cX12_unfold 5 = .ok (.aload_n 0, 1) := by decide +kernel
theorem dX12_unfold_6 : decode cX12_unfold 6 = .ok (.getfield 33, 3) := by decide +kernel
theorem dX12_unfold_9 : decode cX12_unfold 9 = .ok (.iconst 2, 1) := by decide +kernel
theorem dX12_unfold_10 : decode cX12_unfold 10 = .ok (.iaload, 1) := by decide +kernel
theorem dX12_unfold_11 : decode cX12_unfold 11 = .ok (.if_icmp .ge 74, 3) := by decide +kernel
theorem dX12_unfold_14 : decode cX12_unfold 14 = .ok (.iload_n 2, 1) := by decide +kernel
theorem dX12_unfold_15 : decode cX12_unfold 15 = .ok (.bipush 50, 2) := by decide +kernel
theorem dX12_unfold_17 : decode cX12_unfold 17 = .ok (.irem, 1) := by decide +kernel
theorem dX12_unfold_18 : decode cX12_unfold 18 = .ok (.istore 4, 2) := by decide +kernel
theorem dX12_unfold_20 : decode cX12_unfold 20 = .ok (.iload_n 2, 1) := by decide +kernel
theorem dX12_unfold_21 : decode cX12_unfold 21 = .ok (.bipush 50, 2) := by decide +kernel
theorem dX12_unfold_23 : decode cX12_unfold 23 = .ok (.idiv, 1) := by decide +kernel
theorem dX12_unfold_24 : decode cX12_unfold 24 = .ok (.istore_n 2, 1) := by decide +kernel
theorem dX12_unfold_25 : decode cX12_unfold 25 = .ok (.aload_n 0, 1) := by decide +kernel
theorem dX12_unfold_26 : decode cX12_unfold 26 = .ok (.getfield 50, 3) := by decide +kernel
theorem dX12_unfold_29 : decode cX12_unfold 29 = .ok (.iconst 3, 1) := by decide +kernel
theorem dX12_unfold_30 : decode cX12_unfold 30 = .ok (.iload_n 3, 1) := by decide +kernel
theorem dX12_unfold_31 : decode cX12_unfold 31 = .ok (.imul, 1) := by decide +kernel
theorem dX12_unfold_32 : decode cX12_unfold 32 = .ok (.iload 4, 2) := by decide +kernel
theorem dX12_unfold_34 : decode cX12_unfold 34 = .ok (.iconst 2, 1) := by decide +kernel
theorem dX12_unfold_35 : decode cX12_unfold 35 = .ok (.idiv, 1) := by decide +kernel
theorem dX12_unfold_36 : decode cX12_unfold 36 = .ok (.aload_n 0, 1) := by decide +kernel
theorem dX12_unfold_37 : decode cX12_unfold 37 = .ok (.getfield 33, 3) := by decide +kernel
theorem dX12_unfold_40 : decode cX12_unfold 40 = .ok (.iconst 0, 1) := by decide +kernel
theorem dX12_unfold_41 : decode cX12_unfold 41 = .ok (.iaload, 1) := by decide +kernel
theorem dX12_unfold_42 : decode cX12_unfold 42 = .ok (.irem, 1) := by decide +kernel
theorem dX12_unfold_43 : decode cX12_unfold 43 = .ok (.iastore, 1) := by decide +kernel
theorem dX12_unfold_44 : decode cX12_unfold 44 = .ok (.aload_n 0, 1) := by decide +kernel
theorem dX12_unfold_45 : decode cX12_unfold 45 = .ok (.getfield 50, 3) := by decide +kernel
theorem dX12_unfold_48 : decode cX12_unfold 48 = .ok (.iconst 3, 1) := by decide +kernel
theorem dX12_unfold_49 : decode cX12_unfold 49 = .ok (.iload_n 3, 1) := by decide +kernel
theorem dX12_unfold_50 : decode cX12_unfold 50 = .ok (.imul, 1) := by decide +kernel
theorem dX12_unfold_51 : decode cX12_unfold 51 = .ok (.iconst 1, 1) := by decide +kernel
theorem dX12_unfold_52 : decode cX12_unfold 52 = .ok (.iadd, 1) := by decide +kernel
theorem dX12_unfold_53 : decode cX12_unfold 53 = .ok (.iload 4, 2) := by decide +kernel
theorem dX12_unfold_55 : decode cX12_unfold 55 = .ok (.iconst 2, 1) := by decide +kernel
theorem dX12_unfold_56 : decode cX12_unfold 56 = .ok (.idiv, 1) := by decide +kernel
theorem dX12_unfold_57 : decode cX12_unfold 57 = .ok (.aload_n 0, 1) := by decide +kernel
theorem dX12_unfold_58 : decode cX12_unfold 58 = .ok (.getfield 33, 3) := by decide +kernel
theorem dX12_unfold_61 : decode cX12_unfold 61 = .ok (.iconst 0, 1) := by decide +kernel
theorem dX12_unfold_62 : decode cX12_unfold 62 = .ok (.iaload, 1) := by decide +kernel
theorem dX12_unfold_63 : decode cX12_unfold 63 = .ok (.idiv, 1) := by decide +kernel
theorem dX12_unfold_64 : decode cX12_unfold 64 = .ok (.iastore, 1) := by decide +kernel
theorem dX12_unfold_65 : decode cX12_unfold 65 = .ok (.aload_n 0, 1) := by decide +kernel
theorem dX12_unfold_66 : decode cX12_unfold 66 = .ok (.getfield 50, 3) := by decide +kernel
theorem dX12_unfold_69 : decode cX12_unfold 69 = .ok (.iconst 3, 1) := by decide +kernel
theorem dX12_unfold_70 : decode cX12_unfold 70 = .ok (.iload_n 3, 1) := by decide +kernel
theorem dX12_unfold_71 : decode cX12_unfold 71 = .ok (.imul, 1) := by decide +kernel
theorem dX12_unfold_72 : decode cX12_unfold 72 = .ok (.iconst 2, 1) := by decide +kernel
theorem dX12_unfold_73 : decode cX12_unfold 73 = .ok (.iadd, 1) := by decide +kernel
theorem dX12_unfold_74 : decode cX12_unfold 74 = .ok (.iload 4, 2) := by decide +kernel
theorem dX12_unfold_76 : decode cX12_unfold 76 = .ok (.iconst 2, 1) := by decide +kernel
theorem dX12_unfold_77 : decode cX12_unfold 77 = .ok (.irem, 1) := by decide +kernel
theorem dX12_unfold_78 : decode cX12_unfold 78 = .ok (.iastore, 1) := by decide +kernel
theorem dX12_unfold_79 : decode cX12_unfold 79 = .ok (.iinc 3 1, 3) := by decide +kernel
theorem dX12_unfold_82 : decode cX12_unfold 82 = .ok (.goto (-78), 3) := by decide +kernel
theorem dX12_unfold_85 : decode cX12_unfold 85 = .ok (.return_, 1) := by decide +kernel
def wb_X12_unfold_4 (K4 : AH → Nat → Int32 → Int32 → Prop) (h : AH) (al0 : Nat) (xl2 : Int32) (xl3 : Int32)  (post : AH → Prop) : Prop := (ob h al0 11) ∧ (∃ rv1, aP h al0 6 = some rv1 ∧ ((ob h rv1 13) ∧ ((vp_in 2 (aL h rv1)) ∧ (((aI h rv1 (2 : Int32).toNatClampNeg) ≤ xl3 → (post h)) ∧ (¬ (aI h rv1 (2 : Int32).toNatClampNeg) ≤ xl3 → (∀ iv2 : Int32, iv2 = xl2 - xl2 / 50 * 50 → (∀ iv3 : Int32, iv3 = xl2 / 50 → ((ob h al0 11) ∧ (∃ rv4, aP h al0 24 = some rv4 ∧ ((ob h al0 11) ∧ (∃ rv5, aP h al0 6 = some rv5 ∧ ((ob h rv5 13) ∧ ((vp_in 0 (aL h rv5)) ∧ ((¬ (aI h rv5 (0 : Int32).toNatClampNeg) = 0) ∧ ((ob h rv4 13) ∧ ((vp_in ((3 : Int32) * xl3) (aL h rv4)) ∧ (∀ hv6 : AH, hv6 = hI h rv4 ((3 : Int32) * xl3).toNatClampNeg ((iv2 / 2) - (iv2 / 2) / (aI h rv5 (0 : Int32).toNatClampNeg) * (aI h rv5 (0 : Int32).toNatClampNeg)) → ((ob hv6 al0 11) ∧ (∃ rv7, aP hv6 al0 24 = some rv7 ∧ ((ob hv6 al0 11) ∧ (∃ rv8, aP hv6 al0 6 = some rv8 ∧ ((ob hv6 rv8 13) ∧ ((vp_in 0 (aL hv6 rv8)) ∧ ((¬ (aI hv6 rv8 (0 : Int32).toNatClampNeg) = 0) ∧ ((ob hv6 rv7 13) ∧ ((vp_in (((3 : Int32) * xl3) + (1 : Int32)) (aL hv6 rv7)) ∧ (∀ hv9 : AH, hv9 = hI hv6 rv7 (((3 : Int32) * xl3) + (1 : Int32)).toNatClampNeg ((iv2 / 2) / (aI hv6 rv8 (0 : Int32).toNatClampNeg)) → ((ob hv9 al0 11) ∧ (∃ rv10, aP hv9 al0 24 = some rv10 ∧ ((ob hv9 rv10 13) ∧ ((vp_in (((3 : Int32) * xl3) + (2 : Int32)) (aL hv9 rv10)) ∧ (∀ hv11 : AH, hv11 = hI hv9 rv10 (((3 : Int32) * xl3) + (2 : Int32)).toNatClampNeg (iv2 - iv2 / 2 * 2) → (∀ iv12 : Int32, iv12 = xl3 + 1 → (K4 hv11 al0 iv3 iv12))))))))))))))))))))))))))))))))))
set_option maxRecDepth 100000 in
theorem tb_X12_unfold_4 {G : GG} {p : Program} {l : Launch} {e : Env} {R : Room} {s : State} {m : MethodId} {args : Array Value} {below : List Frame} {meth : Method} {c : Code} {n0 s0 : Nat} {post : AH → Prop} (C : Cx G p R s m args meth c 5 cX12_unfold RX12 n0 s0 0 0) (hr : meth.sig.returnType = none) {K4 : AH → Nat → Int32 → Int32 → Prop} (hK4 : ∀ (h : AH) (al0 : Nat) (xl2 : Int32) (xl3 : Int32), K4 h al0 xl2 xl3 → AW G p l e R s m args below meth c 5 (QM G (pV post) args s below n0 s0) 4 [(0, .ref (G.1 + al0)), (2, .int xl2), (3, .int xl3)] [] h) {h : AH} {al0 : Nat} {xl2 : Int32} {xl3 : Int32}  (hw : wb_X12_unfold_4 K4 h al0 xl2 xl3 post) : AW G p l e R s m args below meth c 5 (QM G (pV post) args s below n0 s0) 4 [(0, .ref (G.1 + al0)), (2, .int xl2), (3, .int xl3)] [] h := by
  unfold wb_X12_unfold_4 at hw
  refine r_iload_n C dX12_unfold_4 2 rfl ?_
  refine r_aload_n C dX12_unfold_5 0 rfl ?_
  have hob := hw.1
  obtain ⟨rv1, hp, hw⟩ := hw.2
  refine r_getP C fl_RX12_33_11 hob hp (fun _ _ _ => rfl) dX12_unfold_6 ?_
  refine r_iconst (v := 2) C dX12_unfold_9 (by decide) ?_
  refine r_iaload C hw.1 hw.2.1 dX12_unfold_10 ?_
  replace hw := hw.2.2
  refine r_icmp_ge C dX12_unfold_11 85 (by decide) (fun hc => ?_) (fun hc => ?_)
  · replace hw := hw.1 hc
    exact r_vret C hr dX12_unfold_85 hw
  · replace hw := hw.2 hc
    refine r_iload_n C dX12_unfold_14 1 rfl ?_
    refine r_bipush (v := 50) C dX12_unfold_15 (by decide) ?_
    refine r_irem C dX12_unfold_17 (by decide) ?_
    refine r_topi fun iv2 eiv2 => ?_
    replace hw := hw iv2 eiv2
    refine r_istore C dX12_unfold_18 [(4, .int iv2), (0, .ref (G.1 + al0)), (2, .int xl2), (3, .int xl3)] (by decide) rfl ?_
    refine r_iload_n C dX12_unfold_20 2 rfl ?_
    refine r_bipush (v := 50) C dX12_unfold_21 (by decide) ?_
    refine r_idiv C dX12_unfold_23 (by decide) ?_
    refine r_topi fun iv3 eiv3 => ?_
    replace hw := hw iv3 eiv3
    refine r_istore_n C dX12_unfold_24 [(2, .int iv3), (4, .int iv2), (0, .ref (G.1 + al0)), (3, .int xl3)] (by decide) rfl ?_
    refine r_aload_n C dX12_unfold_25 2 rfl ?_
    have hob := hw.1
    obtain ⟨rv4, hp, hw⟩ := hw.2
    refine r_getP C fl_RX12_50_11 hob hp (fun _ _ _ => rfl) dX12_unfold_26 ?_
    refine r_iconst (v := 3) C dX12_unfold_29 (by decide) ?_
    refine r_iload_n C dX12_unfold_30 3 rfl ?_
    refine r_imul C dX12_unfold_31 ?_
    refine r_iload C dX12_unfold_32 1 rfl ?_
    refine r_iconst (v := 2) C dX12_unfold_34 (by decide) ?_
    refine r_idiv C dX12_unfold_35 (by decide) ?_
    refine r_aload_n C dX12_unfold_36 2 rfl ?_
    have hob := hw.1
    obtain ⟨rv5, hp, hw⟩ := hw.2
    refine r_getP C fl_RX12_33_11 hob hp (fun _ _ _ => rfl) dX12_unfold_37 ?_
    refine r_iconst (v := 0) C dX12_unfold_40 (by decide) ?_
    refine r_iaload C hw.1 hw.2.1 dX12_unfold_41 ?_
    replace hw := hw.2.2
    refine r_irem C dX12_unfold_42 hw.1 ?_
    replace hw := hw.2
    refine r_iastore C hw.1 hw.2.1 dX12_unfold_43 ?_
    replace hw := hw.2.2
    refine r_toph fun hv6 ehv6 => ?_
    replace hw := hw hv6 ehv6
    refine r_aload_n C dX12_unfold_44 2 rfl ?_
    have hob := hw.1
    obtain ⟨rv7, hp, hw⟩ := hw.2
    refine r_getP C fl_RX12_50_11 hob hp (fun _ _ _ => rfl) dX12_unfold_45 ?_
    refine r_iconst (v := 3) C dX12_unfold_48 (by decide) ?_
    refine r_iload_n C dX12_unfold_49 3 rfl ?_
    refine r_imul C dX12_unfold_50 ?_
    refine r_iconst (v := 1) C dX12_unfold_51 (by decide) ?_
    refine r_iadd C dX12_unfold_52 ?_
    refine r_iload C dX12_unfold_53 1 rfl ?_
    refine r_iconst (v := 2) C dX12_unfold_55 (by decide) ?_
    refine r_idiv C dX12_unfold_56 (by decide) ?_
    refine r_aload_n C dX12_unfold_57 2 rfl ?_
    have hob := hw.1
    obtain ⟨rv8, hp, hw⟩ := hw.2
    refine r_getP C fl_RX12_33_11 hob hp (fun _ _ _ => rfl) dX12_unfold_58 ?_
    refine r_iconst (v := 0) C dX12_unfold_61 (by decide) ?_
    refine r_iaload C hw.1 hw.2.1 dX12_unfold_62 ?_
    replace hw := hw.2.2
    refine r_idiv C dX12_unfold_63 hw.1 ?_
    replace hw := hw.2
    refine r_iastore C hw.1 hw.2.1 dX12_unfold_64 ?_
    replace hw := hw.2.2
    refine r_toph fun hv9 ehv9 => ?_
    replace hw := hw hv9 ehv9
    refine r_aload_n C dX12_unfold_65 2 rfl ?_
    have hob := hw.1
    obtain ⟨rv10, hp, hw⟩ := hw.2
    refine r_getP C fl_RX12_50_11 hob hp (fun _ _ _ => rfl) dX12_unfold_66 ?_
    refine r_iconst (v := 3) C dX12_unfold_69 (by decide) ?_
    refine r_iload_n C dX12_unfold_70 3 rfl ?_
    refine r_imul C dX12_unfold_71 ?_
    refine r_iconst (v := 2) C dX12_unfold_72 (by decide) ?_
    refine r_iadd C dX12_unfold_73 ?_
    refine r_iload C dX12_unfold_74 1 rfl ?_
    refine r_iconst (v := 2) C dX12_unfold_76 (by decide) ?_
    refine r_irem C dX12_unfold_77 (by decide) ?_
    refine r_iastore C hw.1 hw.2.1 dX12_unfold_78 ?_
    replace hw := hw.2.2
    refine r_toph fun hv11 ehv11 => ?_
    replace hw := hw hv11 ehv11
    obtain ⟨iv12, eiv12⟩ : ∃ q : Int32, q = xl3 + 1 := ⟨_, rfl⟩
    replace hw := hw iv12 eiv12
    refine r_iinc C dX12_unfold_79 3 rfl (by rw [eiv12]; rfl) [(3, .int iv12), (2, .int iv3), (4, .int iv2), (0, .ref (G.1 + al0))] (by decide) rfl ?_
    refine r_goto C dX12_unfold_82 4 (by decide) ?_
    refine r_sub [3, 1, 0] rfl ?_
    exact hK4 _ _ _ _ hw
def wl_X12_unfold_4  (post : AH → Prop) : Nat → AH → Nat → Int32 → Int32 → Prop
  | 0 => fun _ _ _ _ => False
  | n + 1 => fun h al0 xl2 xl3 => wb_X12_unfold_4  (wl_X12_unfold_4  post n) h al0 xl2 xl3 post
theorem tl_X12_unfold_4 {G : GG} {p : Program} {l : Launch} {e : Env} {R : Room} {s : State} {m : MethodId} {args : Array Value} {below : List Frame} {meth : Method} {c : Code} {n0 s0 : Nat} {post : AH → Prop} (C : Cx G p R s m args meth c 5 cX12_unfold RX12 n0 s0 0 0) (hr : meth.sig.returnType = none)   : ∀ (n : Nat) (h : AH) (al0 : Nat) (xl2 : Int32) (xl3 : Int32), wl_X12_unfold_4  post n h al0 xl2 xl3 → AW G p l e R s m args below meth c 5 (QM G (pV post) args s below n0 s0) 4 [(0, .ref (G.1 + al0)), (2, .int xl2), (3, .int xl3)] [] h := by
  intro n
  induction n with
  | zero => intro h al0 xl2 xl3 hw; exact hw.elim
  | succ n ih => intro h al0 xl2 xl3 hw; exact tb_X12_unfold_4 C hr  ih hw
def wp_X12_unfold (h : AH) (a0 : Nat) (x1 : Int32) (post : AH → Prop) : Prop := ∃ n, wl_X12_unfold_4  post n h a0 x1 0
set_option maxRecDepth 100000 in
theorem c_X12_unfold (G : GG) (h : AH) (a0 : Nat) (x1 : Int32) (post : AH → Prop) (hw : wp_X12_unfold h a0 x1 post) : MC G yX12_unfold cX12_unfold 5 none 0 0 h [.ref (G.1 + a0), .int x1] (pV post) := by
  refine MC.of (lv := [(0, .ref (G.1 + a0)), (1, .int x1)]) (by decide) (Nat.le_of_ble_eq_true rfl) rfl fun p l e R s m args below meth c C hr hnm => ?_
  unfold wp_X12_unfold at hw
  refine r_iload_n C dX12_unfold_0 1 rfl ?_
  refine r_istore_n C dX12_unfold_1 [(2, .int x1), (0, .ref (G.1 + a0)), (1, .int x1)] (by decide) rfl ?_
  refine r_iconst (v := 0) C dX12_unfold_2 (by decide) ?_
  refine r_istore_n C dX12_unfold_3 [(3, .int 0), (2, .int x1), (0, .ref (G.1 + a0)), (1, .int x1)] (by decide) rfl ?_
  refine r_sub [2, 1, 0] rfl ?_
  obtain ⟨n, hw⟩ := hw
  exact tl_X12_unfold_4 C hr  n _ _ _ _ hw
