theorem yl_X12_code : YL yX12_code cX12_code 3 (some .int) 0 := ⟨(gm8 (List.mem_of_getElem? (i := 219) rfl) rfl), (gm1 (List.mem_of_getElem? (i := 18) rfl) rfl), by decide, by decide, by decide +kernel⟩
theorem fl_RX12_69_11 : FL RX12 69 11 35 := ⟨RX12, RX12, TX12, 53, ci11, by decide, (gm7 (List.mem_of_getElem? (i := 17) rfl) rfl), Or.inl rfl⟩
theorem fl_RX12_78_11 : FL RX12 78 11 38 := ⟨RX12, RX12, TX12, 53, ci11, by decide, (gm7 (List.mem_of_getElem? (i := 20) rfl) rfl), Or.inl rfl⟩
theorem fp_RX12_402_11 : FP RX12 402 11 41 := ⟨RX12, RX12, TX12, 53, ci11, by decide, (gm7 (List.mem_of_getElem? (i := 23) rfl) rfl), Or.inl rfl, rfl⟩
theorem fl_RX12_402_11 : FL RX12 402 11 41 := ⟨RX12, RX12, TX12, 53, ci11, by decide, (gm7 (List.mem_of_getElem? (i := 23) rfl) rfl), Or.inl rfl⟩
theorem yl_X12_unfold : YL yX12_unfold cX12_unfold 5 none 1 := ⟨(gm8 (List.mem_of_getElem? (i := 228) rfl) rfl), (gm1 (List.mem_of_getElem? (i := 18) rfl) rfl), by decide, by decide, by decide +kernel⟩
theorem fl_RX12_72_11 : FL RX12 72 11 36 := ⟨RX12, RX12, TX12, 53, ci11, by decide, (gm7 (List.mem_of_getElem? (i := 18) rfl) rfl), Or.inl rfl⟩
theorem fl_RX12_75_11 : FL RX12 75 11 37 := ⟨RX12, RX12, TX12, 53, ci11, by decide, (gm7 (List.mem_of_getElem? (i := 19) rfl) rfl), Or.inl rfl⟩
theorem fp_RX12_408_11 : FP RX12 408 11 40 := ⟨RX12, RX12, TX12, 53, ci11, by decide, (gm7 (List.mem_of_getElem? (i := 22) rfl) rfl), Or.inl rfl, rfl⟩
theorem fl_RX12_408_11 : FL RX12 408 11 40 := ⟨RX12, RX12, TX12, 53, ci11, by decide, (gm7 (List.mem_of_getElem? (i := 22) rfl) rfl), Or.inl rfl⟩
theorem fl_RX12_81_11 : FL RX12 81 11 39 := ⟨RX12, RX12, TX12, 53, ci11, by decide, (gm7 (List.mem_of_getElem? (i := 21) rfl) rfl), Or.inl rfl⟩
theorem yl_X12_isFew : YL yX12_isFew cX12_isFew 1 (some .boolean) 0 := ⟨(gm8 (List.mem_of_getElem? (i := 215) rfl) rfl), (gm1 (List.mem_of_getElem? (i := 18) rfl) rfl), by decide, by decide, by decide +kernel⟩
theorem yl_X12_rings : YL yX12_rings cX12_rings 10 none 3 := ⟨(gm8 (List.mem_of_getElem? (i := 224) rfl) rfl), (gm1 (List.mem_of_getElem? (i := 18) rfl) rfl), by decide, by decide, by decide +kernel⟩
theorem yl_X12_keepFound : YL yX12_keepFound cX12_keepFound 4 (some .int) 1 := ⟨(gm8 (List.mem_of_getElem? (i := 232) rfl) rfl), (gm1 (List.mem_of_getElem? (i := 18) rfl) rfl), by decide, by decide, by decide +kernel⟩
theorem yl_X12_place : YL yX12_place cX12_place 2 (some .int) 1 := ⟨(gm9 (List.mem_of_getElem? (i := 8) rfl) rfl), (gm1 (List.mem_of_getElem? (i := 18) rfl) rfl), by decide, by decide, by decide +kernel⟩
theorem yl_X12_lays : YL yX12_lays cX12_lays 5 (some .boolean) 4 := ⟨(gm9 (List.mem_of_getElem? (i := 12) rfl) rfl), (gm1 (List.mem_of_getElem? (i := 18) rfl) rfl), by decide, by decide, by decide +kernel⟩
theorem fl_RX12_84_11 : FL RX12 84 11 42 := ⟨RX12, RX12, TX12, 53, ci11, by decide, (gm7 (List.mem_of_getElem? (i := 24) rfl) rfl), Or.inl rfl⟩
theorem fl_RX12_93_11 : FL RX12 93 11 45 := ⟨RX12, RX12, TX12, 53, ci11, by decide, (gm7 (List.mem_of_getElem? (i := 27) rfl) rfl), Or.inl rfl⟩
theorem yl_X12_putAt : YL yX12_putAt cX12_putAt 3 none 2 := ⟨(gm9 (List.mem_of_getElem? (i := 16) rfl) rfl), (gm1 (List.mem_of_getElem? (i := 18) rfl) rfl), by decide, by decide, by decide +kernel⟩
theorem fl_RX12_87_11 : FL RX12 87 11 43 := ⟨RX12, RX12, TX12, 53, ci11, by decide, (gm7 (List.mem_of_getElem? (i := 25) rfl) rfl), Or.inl rfl⟩
theorem fl_RX12_90_11 : FL RX12 90 11 44 := ⟨RX12, RX12, TX12, 53, ci11, by decide, (gm7 (List.mem_of_getElem? (i := 26) rfl) rfl), Or.inl rfl⟩
theorem fl_RX12_96_11 : FL RX12 96 11 46 := ⟨RX12, RX12, TX12, 53, ci11, by decide, (gm7 (List.mem_of_getElem? (i := 28) rfl) rfl), Or.inl rfl⟩
theorem fp_RX12_432_11 : FP RX12 432 11 49 := ⟨RX12, RX12, TX12, 53, ci11, by decide, (gm7 (List.mem_of_getElem? (i := 31) rfl) rfl), Or.inl rfl, rfl⟩
theorem yl_X12_fitsSoFar : YL yX12_fitsSoFar cX12_fitsSoFar 6 (some .boolean) 1 := ⟨(gm9 (List.mem_of_getElem? (i := 28) rfl) rfl), (gm1 (List.mem_of_getElem? (i := 18) rfl) rfl), by decide, by decide, by decide +kernel⟩
theorem fl_RX12_99_11 : FL RX12 99 11 47 := ⟨RX12, RX12, TX12, 53, ci11, by decide, (gm7 (List.mem_of_getElem? (i := 29) rfl) rfl), Or.inl rfl⟩
theorem fl_RX12_102_11 : FL RX12 102 11 48 := ⟨RX12, RX12, TX12, 53, ci11, by decide, (gm7 (List.mem_of_getElem? (i := 30) rfl) rfl), Or.inl rfl⟩
theorem fl_RX12_432_11 : FL RX12 432 11 49 := ⟨RX12, RX12, TX12, 53, ci11, by decide, (gm7 (List.mem_of_getElem? (i := 31) rfl) rfl), Or.inl rfl⟩
theorem yl_X12_together : YL yX12_together cX12_together 8 (some .int) 2 := ⟨(gm9 (List.mem_of_getElem? (i := 52) rfl) rfl), (gm1 (List.mem_of_getElem? (i := 18) rfl) rfl), by decide, by decide, by decide +kernel⟩
theorem dX12_rings_0 : decode cX12_rings 0 = .ok (.iconst 0, 1) := by decide +kernel
theorem dX12_rings_1 : decode cX12_rings 1 = .ok (.istore 4, 2) := by decide +kernel
theorem dX12_rings_3 : decode cX12_rings 3 = .ok (.iload 4, 2) := by decide +kernel
theorem dX12_rings_5 : decode cX12_rings 5 = .ok (.ldc 68, 2) := by decide +kernel
theorem dX12_rings_7 : decode cX12_rings 7 = .ok (.if_icmp .ge 17, 3) := by decide +kernel
theorem dX12_rings_10 : decode cX12_rings 10 = .ok (.aload_n 0, 1) := by decide +kernel
theorem dX12_rings_11 : decode cX12_rings 11 = .ok (.getfield 69, 3) := by decide +kernel
theorem dX12_rings_14 : decode cX12_rings 14 = .ok (.iload 4, 2) := by decide +kernel
theorem dX12_rings_16 : decode cX12_rings 16 = .ok (.iconst (-1), 1) := by decide +kernel
theorem dX12_rings_17 : decode cX12_rings 17 = .ok (.iastore, 1) := by decide +kernel
theorem dX12_rings_18 : decode cX12_rings 18 = .ok (.iinc 4 1, 3) := by decide +kernel
theorem dX12_rings_21 : decode cX12_rings 21 = .ok (.goto (-18), 3) := by decide +kernel
theorem dX12_rings_24 : decode cX12_rings 24 = .ok (.aload_n 0, 1) := by decide +kernel
theorem dX12_rings_25 : decode cX12_rings 25 = .ok (.invokevirtual 317, 3) := by decide +kernel
theorem dX12_rings_28 : decode cX12_rings 28 = .ok (.aload_n 0, 1) := by decide +kernel
theorem dX12_rings_29 : decode cX12_rings 29 = .ok (.invokevirtual 399, 3) := by decide +kernel
theorem dX12_rings_32 : decode cX12_rings 32 = .ok (.istore 4, 2) := by decide +kernel
theorem dX12_rings_34 : decode cX12_rings 34 = .ok (.aload_n 0, 1) := by decide +kernel
theorem dX12_rings_35 : decode cX12_rings 35 = .ok (.getfield 69, 3) := by decide +kernel
theorem dX12_rings_38 : decode cX12_rings 38 = .ok (.iload 4, 2) := by decide +kernel
theorem dX12_rings_40 : decode cX12_rings 40 = .ok (.iconst 0, 1) := by decide +kernel
theorem dX12_rings_41 : decode cX12_rings 41 = .ok (.iastore, 1) := by decide +kernel
theorem dX12_rings_42 : decode cX12_rings 42 = .ok (.aload_n 0, 1) := by decide +kernel
theorem dX12_rings_43 : decode cX12_rings 43 = .ok (.getfield 78, 3) := by decide +kernel
theorem dX12_rings_46 : decode cX12_rings 46 = .ok (.iconst 0, 1) := by decide +kernel
theorem dX12_rings_47 : decode cX12_rings 47 = .ok (.iload 4, 2) := by decide +kernel
theorem dX12_rings_49 : decode cX12_rings 49 = .ok (.iastore, 1) := by decide +kernel
theorem dX12_rings_50 : decode cX12_rings 50 = .ok (.aload_n 0, 1) := by decide +kernel
theorem dX12_rings_51 : decode cX12_rings 51 = .ok (.iconst 1, 1) := by decide +kernel
theorem dX12_rings_52 : decode cX12_rings 52 = .ok (.putfield 402, 3) := by decide +kernel
theorem dX12_rings_55 : decode cX12_rings 55 = .ok (.iconst 0, 1) := by decide +kernel
theorem dX12_rings_56 : decode cX12_rings 56 = .ok (.istore 5, 2) := by decide +kernel
theorem dX12_rings_58 : decode cX12_rings 58 = .ok (.iload 5, 2) := by decide +kernel
theorem dX12_rings_60 : decode cX12_rings 60 = .ok (.aload_n 0, 1) := by decide +kernel
theorem dX12_rings_61 : decode cX12_rings 61 = .ok (.getfield 402, 3) := by decide +kernel
theorem dX12_rings_64 : decode cX12_rings 64 = .ok (.if_icmp .ge 179, 3) := by decide +kernel
theorem dX12_rings_67 : decode cX12_rings 67 = .ok (.iload_n 3, 1) := by decide +kernel
theorem dX12_rings_68 : decode cX12_rings 68 = .ok (.ifCond .lt 12, 3) := by decide +kernel
theorem dX12_rings_71 : decode cX12_rings 71 = .ok (.aload_n 0, 1) := by decide +kernel
theorem dX12_rings_72 : decode cX12_rings 72 = .ok (.getfield 69, 3) := by decide +kernel
theorem dX12_rings_75 : decode cX12_rings 75 = .ok (.iload_n 3, 1) := by decide +kernel
theorem dX12_rings_76 : decode cX12_rings 76 = .ok (.iaload, 1) := by decide +kernel
theorem dX12_rings_77 : decode cX12_rings 77 = .ok (.ifCond .ge 166, 3) := by decide +kernel
theorem dX12_rings_80 : decode cX12_rings 80 = .ok (.aload_n 0, 1) := by decide +kernel
theorem dX12_rings_81 : decode cX12_rings 81 = .ok (.getfield 78, 3) := by decide +kernel
theorem dX12_rings_84 : decode cX12_rings 84 = .ok (.iload 5, 2) := by decide +kernel
theorem dX12_rings_86 : decode cX12_rings 86 = .ok (.iaload, 1) := by decide +kernel
theorem dX12_rings_87 : decode cX12_rings 87 = .ok (.istore 6, 2) := by decide +kernel
theorem dX12_rings_89 : decode cX12_rings 89 = .ok (.aload_n 0, 1) := by decide +kernel
theorem dX12_rings_90 : decode cX12_rings 90 = .ok (.getfield 69, 3) := by decide +kernel
theorem dX12_rings_93 : decode cX12_rings 93 = .ok (.iload 6, 2) := by decide +kernel
theorem dX12_rings_95 : decode cX12_rings 95 = .ok (.iaload, 1) := by decide +kernel
theorem dX12_rings_96 : decode cX12_rings 96 = .ok (.iload_n 2, 1) := by decide +kernel
theorem dX12_rings_97 : decode cX12_rings 97 = .ok (.if_icmp .ne 4, 3) := by decide +kernel
theorem dX12_rings_100 : decode cX12_rings 100 = .ok (.return_, 1) := by decide +kernel
theorem dX12_rings_101 : decode cX12_rings 101 = .ok (.iconst 0, 1) := by decide +kernel
theorem dX12_rings_102 : decode cX12_rings 102 = .ok (.istore 7, 2) := by decide +kernel
theorem dX12_rings_104 : decode cX12_rings 104 = .ok (.iload 7, 2) := by decide +kernel
theorem dX12_rings_106 : decode cX12_rings 106 = .ok (.aload_n 0, 1) := by decide +kernel
theorem dX12_rings_107 : decode cX12_rings 107 = .ok (.getfield 33, 3) := by decide +kernel
theorem dX12_rings_110 : decode cX12_rings 110 = .ok (.iconst 2, 1) := by decide +kernel
theorem dX12_rings_111 : decode cX12_rings 111 = .ok (.iaload, 1) := by decide +kernel
theorem dX12_rings_112 : decode cX12_rings 112 = .ok (.if_icmp .ge 125, 3) := by decide +kernel
theorem dX12_rings_115 : decode cX12_rings 115 = .ok (.iconst 0, 1) := by decide +kernel
theorem dX12_rings_116 : decode cX12_rings 116 = .ok (.istore 8, 2) := by decide +kernel
theorem dX12_rings_118 : decode cX12_rings 118 = .ok (.iload 8, 2) := by decide +kernel
theorem dX12_rings_120 : decode cX12_rings 120 = .ok (.iconst 4, 1) := by decide +kernel
theorem dX12_rings_121 : decode cX12_rings 121 = .ok (.if_icmp .gt 110, 3) := by decide +kernel
theorem dX12_rings_124 : decode cX12_rings 124 = .ok (.aload_n 0, 1) := by decide +kernel
theorem dX12_rings_125 : decode cX12_rings 125 = .ok (.iload 6, 2) := by decide +kernel
theorem dX12_rings_127 : decode cX12_rings 127 = .ok (.invokevirtual 405, 3) := by decide +kernel
theorem dX12_rings_130 : decode cX12_rings 130 = .ok (.aload_n 0, 1) := by decide +kernel
theorem dX12_rings_131 : decode cX12_rings 131 = .ok (.iload 7, 2) := by decide +kernel
theorem dX12_rings_133 : decode cX12_rings 133 = .ok (.iload 8, 2) := by decide +kernel
theorem dX12_rings_135 : decode cX12_rings 135 = .ok (.iload_n 1, 1) := by decide +kernel
theorem dX12_rings_136 : decode cX12_rings 136 = .ok (.invokevirtual 350, 3) := by decide +kernel
theorem dX12_rings_139 : decode cX12_rings 139 = .ok (.ifCond .le 6, 3) := by decide +kernel
theorem dX12_rings_142 : decode cX12_rings 142 = .ok (.goto 83, 3) := by decide +kernel
theorem dX12_rings_145 : decode cX12_rings 145 = .ok (.aload_n 0, 1) := by decide +kernel
theorem dX12_rings_146 : decode cX12_rings 146 = .ok (.invokevirtual 399, 3) := by decide +kernel
theorem dX12_rings_149 : decode cX12_rings 149 = .ok (.istore 9, 2) := by decide +kernel
theorem dX12_rings_151 : decode cX12_rings 151 = .ok (.aload_n 0, 1) := by decide +kernel
theorem dX12_rings_152 : decode cX12_rings 152 = .ok (.getfield 69, 3) := by decide +kernel
theorem dX12_rings_155 : decode cX12_rings 155 = .ok (.iload 9, 2) := by decide +kernel
theorem dX12_rings_157 : decode cX12_rings 157 = .ok (.iaload, 1) := by decide +kernel
theorem dX12_rings_158 : decode cX12_rings 158 = .ok (.ifCond .lt 6, 3) := by decide +kernel
theorem dX12_rings_161 : decode cX12_rings 161 = .ok (.goto 64, 3) := by decide +kernel
theorem dX12_rings_164 : decode cX12_rings 164 = .ok (.aload_n 0, 1) := by decide +kernel
theorem dX12_rings_165 : decode cX12_rings 165 = .ok (.getfield 69, 3) := by decide +kernel
theorem dX12_rings_168 : decode cX12_rings 168 = .ok (.iload 9, 2) := by decide +kernel
theorem dX12_rings_170 : decode cX12_rings 170 = .ok (.aload_n 0, 1) := by decide +kernel
theorem dX12_rings_171 : decode cX12_rings 171 = .ok (.getfield 69, 3) := by decide +kernel
theorem dX12_rings_174 : decode cX12_rings 174 = .ok (.iload 6, 2) := by decide +kernel
theorem dX12_rings_176 : decode cX12_rings 176 = .ok (.iaload, 1) := by decide +kernel
theorem dX12_rings_177 : decode cX12_rings 177 = .ok (.iconst 1, 1) := by decide +kernel
theorem dX12_rings_178 : decode cX12_rings 178 = .ok (.iadd, 1) := by decide +kernel
theorem dX12_rings_179 : decode cX12_rings 179 = .ok (.iastore, 1) := by decide +kernel
theorem dX12_rings_180 : decode cX12_rings 180 = .ok (.aload_n 0, 1) := by decide +kernel
theorem dX12_rings_181 : decode cX12_rings 181 = .ok (.getfield 72, 3) := by decide +kernel
theorem dX12_rings_184 : decode cX12_rings 184 = .ok (.iload 9, 2) := by decide +kernel
theorem dX12_rings_186 : decode cX12_rings 186 = .ok (.iload 6, 2) := by decide +kernel
theorem dX12_rings_188 : decode cX12_rings 188 = .ok (.iastore, 1) := by decide +kernel
theorem dX12_rings_189 : decode cX12_rings 189 = .ok (.aload_n 0, 1) := by decide +kernel
theorem dX12_rings_190 : decode cX12_rings 190 = .ok (.getfield 75, 3) := by decide +kernel
theorem dX12_rings_193 : decode cX12_rings 193 = .ok (.iload 9, 2) := by decide +kernel
theorem dX12_rings_195 : decode cX12_rings 195 = .ok (.bipush 10, 2) := by decide +kernel
theorem dX12_rings_197 : decode cX12_rings 197 = .ok (.iload 7, 2) := by decide +kernel
theorem dX12_rings_199 : decode cX12_rings 199 = .ok (.imul, 1) := by decide +kernel
theorem dX12_rings_200 : decode cX12_rings 200 = .ok (.iload 8, 2) := by decide +kernel
theorem dX12_rings_202 : decode cX12_rings 202 = .ok (.iadd, 1) := by decide +kernel
theorem dX12_rings_203 : decode cX12_rings 203 = .ok (.iastore, 1) := by decide +kernel
theorem dX12_rings_204 : decode cX12_rings 204 = .ok (.aload_n 0, 1) := by decide +kernel
theorem dX12_rings_205 : decode cX12_rings 205 = .ok (.getfield 78, 3) := by decide +kernel
theorem dX12_rings_208 : decode cX12_rings 208 = .ok (.aload_n 0, 1) := by decide +kernel
theorem dX12_rings_209 : decode cX12_rings 209 = .ok (.getfield 402, 3) := by decide +kernel
theorem dX12_rings_212 : decode cX12_rings 212 = .ok (.iload 9, 2) := by decide +kernel
theorem dX12_rings_214 : decode cX12_rings 214 = .ok (.iastore, 1) := by decide +kernel
theorem dX12_rings_215 : decode cX12_rings 215 = .ok (.aload_n 0, 1) := by decide +kernel
theorem dX12_rings_216 : decode cX12_rings 216 = .ok (.dup, 1) := by decide +kernel
theorem dX12_rings_217 : decode cX12_rings 217 = .ok (.getfield 402, 3) := by decide +kernel
theorem dX12_rings_220 : decode cX12_rings 220 = .ok (.iconst 1, 1) := by decide +kernel
theorem dX12_rings_221 : decode cX12_rings 221 = .ok (.iadd, 1) := by decide +kernel
theorem dX12_rings_222 : decode cX12_rings 222 = .ok (.putfield 402, 3) := by decide +kernel
theorem dX12_rings_225 : decode cX12_rings 225 = .ok (.iinc 8 1, 3) := by decide +kernel
theorem dX12_rings_228 : decode cX12_rings 228 = .ok (.goto (-110), 3) := by decide +kernel
theorem dX12_rings_231 : decode cX12_rings 231 = .ok (.iinc 7 1, 3) := by decide +kernel
theorem dX12_rings_234 : decode cX12_rings 234 = .ok (.goto (-130), 3) := by decide +kernel
theorem dX12_rings_237 : decode cX12_rings 237 = .ok (.iinc 5 1, 3) := by decide +kernel
theorem dX12_rings_240 : decode cX12_rings 240 = .ok (.goto (-182), 3) := by decide +kernel
theorem dX12_rings_243 : decode cX12_rings 243 = .ok (.return_, 1) := by decide +kernel
def wb_X12_rings_225 (K58 : AH → Nat → Int32 → Int32 → Int32 → Int32 → Prop) (K104 : AH → Nat → Int32 → Int32 → Int32 → Int32 → Int32 → Int32 → Prop) (K118 : AH → Nat → Int32 → Int32 → Int32 → Int32 → Int32 → Int32 → Int32 → Prop) (h : AH) (al0 : Nat) (xl1 : Int32) (xl2 : Int32) (xl3 : Int32) (xl5 : Int32) (xl6 : Int32) (xl7 : Int32) (xl8 : Int32)  (post : AH → Prop) : Prop := ∀ iv1 : Int32, iv1 = xl8 + 1 → (K118 h al0 xl1 xl2 xl3 xl5 xl6 xl7 iv1)
set_option maxRecDepth 100000 in
theorem tb_X12_rings_225 {G : GG} {p : Program} {l : Launch} {e : Env} {R : Room} {s : State} {m : MethodId} {args : Array Value} {below : List Frame} {meth : Method} {c : Code} {n0 s0 : Nat} {post : AH → Prop} (C : Cx G p R s m args meth c 10 cX12_rings RX12 n0 s0 4 98) (hr : meth.sig.returnType = none) {K58 : AH → Nat → Int32 → Int32 → Int32 → Int32 → Prop} {K104 : AH → Nat → Int32 → Int32 → Int32 → Int32 → Int32 → Int32 → Prop} {K118 : AH → Nat → Int32 → Int32 → Int32 → Int32 → Int32 → Int32 → Int32 → Prop} (hK58 : ∀ (h : AH) (al0 : Nat) (xl1 : Int32) (xl2 : Int32) (xl3 : Int32) (xl5 : Int32), K58 h al0 xl1 xl2 xl3 xl5 → AW G p l e R s m args below meth c 10 (QM G (pV post) args s below n0 s0) 58 [(0, .ref (G.1 + al0)), (1, .int xl1), (2, .int xl2), (3, .int xl3), (5, .int xl5)] [] h) (hK104 : ∀ (h : AH) (al0 : Nat) (xl1 : Int32) (xl2 : Int32) (xl3 : Int32) (xl5 : Int32) (xl6 : Int32) (xl7 : Int32), K104 h al0 xl1 xl2 xl3 xl5 xl6 xl7 → AW G p l e R s m args below meth c 10 (QM G (pV post) args s below n0 s0) 104 [(0, .ref (G.1 + al0)), (1, .int xl1), (2, .int xl2), (3, .int xl3), (5, .int xl5), (6, .int xl6), (7, .int xl7)] [] h) (hK118 : ∀ (h : AH) (al0 : Nat) (xl1 : Int32) (xl2 : Int32) (xl3 : Int32) (xl5 : Int32) (xl6 : Int32) (xl7 : Int32) (xl8 : Int32), K118 h al0 xl1 xl2 xl3 xl5 xl6 xl7 xl8 → AW G p l e R s m args below meth c 10 (QM G (pV post) args s below n0 s0) 118 [(0, .ref (G.1 + al0)), (1, .int xl1), (2, .int xl2), (3, .int xl3), (5, .int xl5), (6, .int xl6), (7, .int xl7), (8, .int xl8)] [] h) {h : AH} {al0 : Nat} {xl1 : Int32} {xl2 : Int32} {xl3 : Int32} {xl5 : Int32} {xl6 : Int32} {xl7 : Int32} {xl8 : Int32}  (hw : wb_X12_rings_225 K58 K104 K118 h al0 xl1 xl2 xl3 xl5 xl6 xl7 xl8 post) : AW G p l e R s m args below meth c 10 (QM G (pV post) args s below n0 s0) 225 [(0, .ref (G.1 + al0)), (1, .int xl1), (2, .int xl2), (3, .int xl3), (5, .int xl5), (6, .int xl6), (7, .int xl7), (8, .int xl8)] [] h := by
  unfold wb_X12_rings_225 at hw
  obtain ⟨iv1, eiv1⟩ : ∃ q : Int32, q = xl8 + 1 := ⟨_, rfl⟩
  replace hw := hw iv1 eiv1
  refine r_iinc C dX12_rings_225 7 rfl (by rw [eiv1]; rfl) [(8, .int iv1), (0, .ref (G.1 + al0)), (1, .int xl1), (2, .int xl2), (3, .int xl3), (5, .int xl5), (6, .int xl6), (7, .int xl7)] (by decide) rfl ?_
  refine r_goto C dX12_rings_228 118 (by decide) ?_
  refine r_sub [1, 2, 3, 4, 5, 6, 7, 0] rfl ?_
  exact hK118 _ _ _ _ _ _ _ _ _ hw
def wb_X12_rings_118 (K58 : AH → Nat → Int32 → Int32 → Int32 → Int32 → Prop) (K104 : AH → Nat → Int32 → Int32 → Int32 → Int32 → Int32 → Int32 → Prop) (K118 : AH → Nat → Int32 → Int32 → Int32 → Int32 → Int32 → Int32 → Int32 → Prop) (h : AH) (al0 : Nat) (xl1 : Int32) (xl2 : Int32) (xl3 : Int32) (xl5 : Int32) (xl6 : Int32) (xl7 : Int32) (xl8 : Int32)  (post : AH → Prop) : Prop := (4 < xl8 → (∀ iv1 : Int32, iv1 = xl7 + 1 → (K104 h al0 xl1 xl2 xl3 xl5 xl6 iv1))) ∧ (¬ 4 < xl8 → ((ob h al0 11) ∧ wp_X12_unfold h al0 xl6 (fun hv2  => (ob hv2 al0 11) ∧ wp_X12_moves hv2 al0 xl7 xl8 xl1 (fun hv3 iv4 => (iv4 ≤ 0 → ((ob hv3 al0 11) ∧ wp_X12_code hv3 al0  (fun hv5 iv6 => (ob hv5 al0 11) ∧ (∃ rv7, aP hv5 al0 35 = some rv7 ∧ ((ob hv5 rv7 13) ∧ ((vp_in iv6 (aL hv5 rv7)) ∧ (((aI hv5 rv7 iv6.toNatClampNeg) < 0 → ((ob hv5 al0 11) ∧ (∃ rv8, aP hv5 al0 35 = some rv8 ∧ ((ob hv5 al0 11) ∧ (∃ rv9, aP hv5 al0 35 = some rv9 ∧ ((ob hv5 rv9 13) ∧ ((vp_in xl6 (aL hv5 rv9)) ∧ ((ob hv5 rv8 13) ∧ ((vp_in iv6 (aL hv5 rv8)) ∧ (∀ hv10 : AH, hv10 = hI hv5 rv8 iv6.toNatClampNeg ((aI hv5 rv9 xl6.toNatClampNeg) + (1 : Int32)) → ((ob hv10 al0 11) ∧ (∃ rv11, aP hv10 al0 36 = some rv11 ∧ ((ob hv10 rv11 13) ∧ ((vp_in iv6 (aL hv10 rv11)) ∧ (∀ hv12 : AH, hv12 = hI hv10 rv11 iv6.toNatClampNeg xl6 → ((ob hv12 al0 11) ∧ (∃ rv13, aP hv12 al0 37 = some rv13 ∧ ((ob hv12 rv13 13) ∧ ((vp_in iv6 (aL hv12 rv13)) ∧ (∀ hv14 : AH, hv14 = hI hv12 rv13 iv6.toNatClampNeg (((10 : Int32) * xl7) + xl8) → ((ob hv14 al0 11) ∧ (∃ rv15, aP hv14 al0 38 = some rv15 ∧ ((ob hv14 al0 11) ∧ ((ob hv14 rv15 13) ∧ ((vp_in (aI hv14 al0 41) (aL hv14 rv15)) ∧ (∀ hv16 : AH, hv16 = hI hv14 rv15 (aI hv14 al0 41).toNatClampNeg iv6 → ((ob hv16 al0 11) ∧ ((ob hv16 al0 11) ∧ (∀ hv17 : AH, hv17 = hI hv16 al0 41 ((aI hv16 al0 41) + (1 : Int32)) → (wb_X12_rings_225 K58 K104 K118 hv17 al0 xl1 xl2 xl3 xl5 xl6 xl7 xl8 post)))))))))))))))))))))))))))))) ∧ (¬ (aI hv5 rv7 iv6.toNatClampNeg) < 0 → (wb_X12_rings_225 K58 K104 K118 hv5 al0 xl1 xl2 xl3 xl5 xl6 xl7 xl8 post))))))))) ∧ (¬ iv4 ≤ 0 → (wb_X12_rings_225 K58 K104 K118 hv3 al0 xl1 xl2 xl3 xl5 xl6 xl7 xl8 post))))))
set_option maxRecDepth 100000 in
theorem tb_X12_rings_118 {G : GG} {p : Program} {l : Launch} {e : Env} {R : Room} {s : State} {m : MethodId} {args : Array Value} {below : List Frame} {meth : Method} {c : Code} {n0 s0 : Nat} {post : AH → Prop} (C : Cx G p R s m args meth c 10 cX12_rings RX12 n0 s0 4 98) (hr : meth.sig.returnType = none) {K58 : AH → Nat → Int32 → Int32 → Int32 → Int32 → Prop} {K104 : AH → Nat → Int32 → Int32 → Int32 → Int32 → Int32 → Int32 → Prop} {K118 : AH → Nat → Int32 → Int32 → Int32 → Int32 → Int32 → Int32 → Int32 → Prop} (hK58 : ∀ (h : AH) (al0 : Nat) (xl1 : Int32) (xl2 : Int32) (xl3 : Int32) (xl5 : Int32), K58 h al0 xl1 xl2 xl3 xl5 → AW G p l e R s m args below meth c 10 (QM G (pV post) args s below n0 s0) 58 [(0, .ref (G.1 + al0)), (1, .int xl1), (2, .int xl2), (3, .int xl3), (5, .int xl5)] [] h) (hK104 : ∀ (h : AH) (al0 : Nat) (xl1 : Int32) (xl2 : Int32) (xl3 : Int32) (xl5 : Int32) (xl6 : Int32) (xl7 : Int32), K104 h al0 xl1 xl2 xl3 xl5 xl6 xl7 → AW G p l e R s m args below meth c 10 (QM G (pV post) args s below n0 s0) 104 [(0, .ref (G.1 + al0)), (1, .int xl1), (2, .int xl2), (3, .int xl3), (5, .int xl5), (6, .int xl6), (7, .int xl7)] [] h) (hK118 : ∀ (h : AH) (al0 : Nat) (xl1 : Int32) (xl2 : Int32) (xl3 : Int32) (xl5 : Int32) (xl6 : Int32) (xl7 : Int32) (xl8 : Int32), K118 h al0 xl1 xl2 xl3 xl5 xl6 xl7 xl8 → AW G p l e R s m args below meth c 10 (QM G (pV post) args s below n0 s0) 118 [(0, .ref (G.1 + al0)), (1, .int xl1), (2, .int xl2), (3, .int xl3), (5, .int xl5), (6, .int xl6), (7, .int xl7), (8, .int xl8)] [] h) {h : AH} {al0 : Nat} {xl1 : Int32} {xl2 : Int32} {xl3 : Int32} {xl5 : Int32} {xl6 : Int32} {xl7 : Int32} {xl8 : Int32}  (hw : wb_X12_rings_118 K58 K104 K118 h al0 xl1 xl2 xl3 xl5 xl6 xl7 xl8 post) : AW G p l e R s m args below meth c 10 (QM G (pV post) args s below n0 s0) 118 [(0, .ref (G.1 + al0)), (1, .int xl1), (2, .int xl2), (3, .int xl3), (5, .int xl5), (6, .int xl6), (7, .int xl7), (8, .int xl8)] [] h := by
  unfold wb_X12_rings_118 at hw
  refine r_iload C dX12_rings_118 7 rfl ?_
  refine r_iconst (v := 4) C dX12_rings_120 (by decide) ?_
  refine r_icmp_gt C dX12_rings_121 231 (by decide) (fun hc => ?_) (fun hc => ?_)
  · replace hw := hw.1 hc
    obtain ⟨iv1, eiv1⟩ : ∃ q : Int32, q = xl7 + 1 := ⟨_, rfl⟩
    replace hw := hw iv1 eiv1
    refine r_iinc C dX12_rings_231 6 rfl (by rw [eiv1]; rfl) [(7, .int iv1), (0, .ref (G.1 + al0)), (1, .int xl1), (2, .int xl2), (3, .int xl3), (5, .int xl5), (6, .int xl6), (8, .int xl8)] (by decide) rfl ?_
    refine r_goto C dX12_rings_234 104 (by decide) ?_
    refine r_sub [1, 2, 3, 4, 5, 6, 0] rfl ?_
    exact hK104 _ _ _ _ _ _ _ _ hw
  · replace hw := hw.2 hc
    refine r_aload_n C dX12_rings_124 0 rfl ?_
    refine r_iload C dX12_rings_125 5 rfl ?_
    have hob := hw.1
    replace hw := hw.2
    refine r_callV C (As := [.int xl6]) (rest := []) (c_X12_unfold G h al0 xl6 _ hw) yl_X12_unfold (gm8 (List.mem_of_getElem? (i := 225) rfl) rfl) (gm8 (List.mem_of_getElem? (i := 227) rfl) rfl) (ci := 11) rfl (by decide) (gsel (List.mem_of_getElem? (i := 95) rfl)) hob (by decide) rfl (Nat.le_of_ble_eq_true rfl) dX12_rings_127 rfl (kV fun hv2  hw => ?_)
    refine r_aload_n C dX12_rings_130 0 rfl ?_
    refine r_iload C dX12_rings_131 6 rfl ?_
    refine r_iload C dX12_rings_133 7 rfl ?_
    refine r_iload_n C dX12_rings_135 1 rfl ?_
    have hob := hw.1
    replace hw := hw.2
    refine r_callV C (As := [.int xl7, .int xl8, .int xl1]) (rest := []) (c_X12_moves G hv2 al0 xl7 xl8 xl1 _ hw) yl_X12_moves (gm8 (List.mem_of_getElem? (i := 125) rfl) rfl) (gm8 (List.mem_of_getElem? (i := 127) rfl) rfl) (ci := 11) rfl (by decide) (gsel (List.mem_of_getElem? (i := 80) rfl)) hob (by decide) rfl (Nat.le_of_ble_eq_true rfl) dX12_rings_136 rfl (kI fun hv3 iv4 hw => ?_)
    refine r_if_le C dX12_rings_139 145 (by decide) (fun hc => ?_) (fun hc => ?_)
    · replace hw := hw.1 hc
      refine r_aload_n C dX12_rings_145 0 rfl ?_
      have hob := hw.1
      replace hw := hw.2
      refine r_callV C (As := []) (rest := []) (c_X12_code G hv3 al0  _ hw) yl_X12_code (gm8 (List.mem_of_getElem? (i := 216) rfl) rfl) (gm8 (List.mem_of_getElem? (i := 218) rfl) rfl) (ci := 11) rfl (by decide) (gsel (List.mem_of_getElem? (i := 93) rfl)) hob (by decide) rfl (Nat.le_of_ble_eq_true rfl) dX12_rings_146 rfl (kI fun hv5 iv6 hw => ?_)
      refine r_istore C dX12_rings_149 [(9, .int iv6), (0, .ref (G.1 + al0)), (1, .int xl1), (2, .int xl2), (3, .int xl3), (5, .int xl5), (6, .int xl6), (7, .int xl7), (8, .int xl8)] (by decide) rfl ?_
      refine r_aload_n C dX12_rings_151 1 rfl ?_
      have hob := hw.1
      obtain ⟨rv7, hp, hw⟩ := hw.2
      refine r_getP C fl_RX12_69_11 hob hp (fun _ _ _ => rfl) dX12_rings_152 ?_
      refine r_iload C dX12_rings_155 0 rfl ?_
      refine r_iaload C hw.1 hw.2.1 dX12_rings_157 ?_
      replace hw := hw.2.2
      refine r_if_lt C dX12_rings_158 164 (by decide) (fun hc => ?_) (fun hc => ?_)
      · replace hw := hw.1 hc
        refine r_aload_n C dX12_rings_164 1 rfl ?_
        have hob := hw.1
        obtain ⟨rv8, hp, hw⟩ := hw.2
        refine r_getP C fl_RX12_69_11 hob hp (fun _ _ _ => rfl) dX12_rings_165 ?_
        refine r_iload C dX12_rings_168 0 rfl ?_
        refine r_aload_n C dX12_rings_170 1 rfl ?_
        have hob := hw.1
        obtain ⟨rv9, hp, hw⟩ := hw.2
        refine r_getP C fl_RX12_69_11 hob hp (fun _ _ _ => rfl) dX12_rings_171 ?_
        refine r_iload C dX12_rings_174 6 rfl ?_
        refine r_iaload C hw.1 hw.2.1 dX12_rings_176 ?_
        replace hw := hw.2.2
        refine r_iconst (v := 1) C dX12_rings_177 (by decide) ?_
        refine r_iadd C dX12_rings_178 ?_
        refine r_iastore C hw.1 hw.2.1 dX12_rings_179 ?_
        replace hw := hw.2.2
        refine r_toph fun hv10 ehv10 => ?_
        replace hw := hw hv10 ehv10
        refine r_aload_n C dX12_rings_180 1 rfl ?_
        have hob := hw.1
        obtain ⟨rv11, hp, hw⟩ := hw.2
        refine r_getP C fl_RX12_72_11 hob hp (fun _ _ _ => rfl) dX12_rings_181 ?_
        refine r_iload C dX12_rings_184 0 rfl ?_
        refine r_iload C dX12_rings_186 6 rfl ?_
        refine r_iastore C hw.1 hw.2.1 dX12_rings_188 ?_
        replace hw := hw.2.2
        refine r_toph fun hv12 ehv12 => ?_
        replace hw := hw hv12 ehv12
        refine r_aload_n C dX12_rings_189 1 rfl ?_
        have hob := hw.1
        obtain ⟨rv13, hp, hw⟩ := hw.2
        refine r_getP C fl_RX12_75_11 hob hp (fun _ _ _ => rfl) dX12_rings_190 ?_
        refine r_iload C dX12_rings_193 0 rfl ?_
        refine r_bipush (v := 10) C dX12_rings_195 (by decide) ?_
        refine r_iload C dX12_rings_197 7 rfl ?_
        refine r_imul C dX12_rings_199 ?_
        refine r_iload C dX12_rings_200 8 rfl ?_
        refine r_iadd C dX12_rings_202 ?_
        refine r_iastore C hw.1 hw.2.1 dX12_rings_203 ?_
        replace hw := hw.2.2
        refine r_toph fun hv14 ehv14 => ?_
        replace hw := hw hv14 ehv14
        refine r_aload_n C dX12_rings_204 1 rfl ?_
        have hob := hw.1
        obtain ⟨rv15, hp, hw⟩ := hw.2
        refine r_getP C fl_RX12_78_11 hob hp (fun _ _ _ => rfl) dX12_rings_205 ?_
        refine r_aload_n C dX12_rings_208 1 rfl ?_
        refine r_getI C fl_RX12_402_11 hw.1 (fun _ _ _ => rfl) dX12_rings_209 ?_
        replace hw := hw.2
        refine r_iload C dX12_rings_212 0 rfl ?_
        refine r_iastore C hw.1 hw.2.1 dX12_rings_214 ?_
        replace hw := hw.2.2
        refine r_toph fun hv16 ehv16 => ?_
        replace hw := hw hv16 ehv16
        refine r_aload_n C dX12_rings_215 1 rfl ?_
        refine r_dup C dX12_rings_216 rfl ?_
        refine r_getI C fl_RX12_402_11 hw.1 (fun _ _ _ => rfl) dX12_rings_217 ?_
        replace hw := hw.2
        refine r_iconst (v := 1) C dX12_rings_220 (by decide) ?_
        refine r_iadd C dX12_rings_221 ?_
        refine r_putI C fp_RX12_402_11 hw.1 rfl dX12_rings_222 ?_
        replace hw := hw.2
        refine r_toph fun hv17 ehv17 => ?_
        replace hw := hw hv17 ehv17
        refine r_sub [1, 2, 3, 4, 5, 6, 7, 8] rfl ?_
        exact tb_X12_rings_225 C hr hK58 hK104 hK118 hw
      · replace hw := hw.2 hc
        refine r_goto C dX12_rings_161 225 (by decide) ?_
        refine r_sub [1, 2, 3, 4, 5, 6, 7, 8] rfl ?_
        exact tb_X12_rings_225 C hr hK58 hK104 hK118 hw
    · replace hw := hw.2 hc
      refine r_goto C dX12_rings_142 225 (by decide) ?_
      refine r_sub [0, 1, 2, 3, 4, 5, 6, 7] rfl ?_
      exact tb_X12_rings_225 C hr hK58 hK104 hK118 hw
def wl_X12_rings_118 (K58 : AH → Nat → Int32 → Int32 → Int32 → Int32 → Prop) (K104 : AH → Nat → Int32 → Int32 → Int32 → Int32 → Int32 → Int32 → Prop) (post : AH → Prop) : Nat → AH → Nat → Int32 → Int32 → Int32 → Int32 → Int32 → Int32 → Int32 → Prop
  | 0 => fun _ _ _ _ _ _ _ _ _ => False
  | n + 1 => fun h al0 xl1 xl2 xl3 xl5 xl6 xl7 xl8 => wb_X12_rings_118 K58 K104 (wl_X12_rings_118 K58 K104 post n) h al0 xl1 xl2 xl3 xl5 xl6 xl7 xl8 post
theorem tl_X12_rings_118 {G : GG} {p : Program} {l : Launch} {e : Env} {R : Room} {s : State} {m : MethodId} {args : Array Value} {below : List Frame} {meth : Method} {c : Code} {n0 s0 : Nat} {post : AH → Prop} (C : Cx G p R s m args meth c 10 cX12_rings RX12 n0 s0 4 98) (hr : meth.sig.returnType = none) {K58 : AH → Nat → Int32 → Int32 → Int32 → Int32 → Prop} {K104 : AH → Nat → Int32 → Int32 → Int32 → Int32 → Int32 → Int32 → Prop} (hK58 : ∀ (h : AH) (al0 : Nat) (xl1 : Int32) (xl2 : Int32) (xl3 : Int32) (xl5 : Int32), K58 h al0 xl1 xl2 xl3 xl5 → AW G p l e R s m args below meth c 10 (QM G (pV post) args s below n0 s0) 58 [(0, .ref (G.1 + al0)), (1, .int xl1), (2, .int xl2), (3, .int xl3), (5, .int xl5)] [] h) (hK104 : ∀ (h : AH) (al0 : Nat) (xl1 : Int32) (xl2 : Int32) (xl3 : Int32) (xl5 : Int32) (xl6 : Int32) (xl7 : Int32), K104 h al0 xl1 xl2 xl3 xl5 xl6 xl7 → AW G p l e R s m args below meth c 10 (QM G (pV post) args s below n0 s0) 104 [(0, .ref (G.1 + al0)), (1, .int xl1), (2, .int xl2), (3, .int xl3), (5, .int xl5), (6, .int xl6), (7, .int xl7)] [] h) : ∀ (n : Nat) (h : AH) (al0 : Nat) (xl1 : Int32) (xl2 : Int32) (xl3 : Int32) (xl5 : Int32) (xl6 : Int32) (xl7 : Int32) (xl8 : Int32), wl_X12_rings_118 K58 K104 post n h al0 xl1 xl2 xl3 xl5 xl6 xl7 xl8 → AW G p l e R s m args below meth c 10 (QM G (pV post) args s below n0 s0) 118 [(0, .ref (G.1 + al0)), (1, .int xl1), (2, .int xl2), (3, .int xl3), (5, .int xl5), (6, .int xl6), (7, .int xl7), (8, .int xl8)] [] h := by
  intro n
  induction n with
  | zero => intro h al0 xl1 xl2 xl3 xl5 xl6 xl7 xl8 hw; exact hw.elim
  | succ n ih => intro h al0 xl1 xl2 xl3 xl5 xl6 xl7 xl8 hw; exact tb_X12_rings_118 C hr hK58 hK104 ih hw
def wb_X12_rings_104 (K58 : AH → Nat → Int32 → Int32 → Int32 → Int32 → Prop) (K104 : AH → Nat → Int32 → Int32 → Int32 → Int32 → Int32 → Int32 → Prop) (h : AH) (al0 : Nat) (xl1 : Int32) (xl2 : Int32) (xl3 : Int32) (xl5 : Int32) (xl6 : Int32) (xl7 : Int32)  (post : AH → Prop) : Prop := (ob h al0 11) ∧ (∃ rv1, aP h al0 6 = some rv1 ∧ ((ob h rv1 13) ∧ ((vp_in 2 (aL h rv1)) ∧ (((aI h rv1 (2 : Int32).toNatClampNeg) ≤ xl7 → (∀ iv2 : Int32, iv2 = xl5 + 1 → (K58 h al0 xl1 xl2 xl3 iv2))) ∧ (¬ (aI h rv1 (2 : Int32).toNatClampNeg) ≤ xl7 → (∃ n, wl_X12_rings_118 K58 K104 post n h al0 xl1 xl2 xl3 xl5 xl6 xl7 0))))))
set_option maxRecDepth 100000 in
theorem tb_X12_rings_104 {G : GG} {p : Program} {l : Launch} {e : Env} {R : Room} {s : State} {m : MethodId} {args : Array Value} {below : List Frame} {meth : Method} {c : Code} {n0 s0 : Nat} {post : AH → Prop} (C : Cx G p R s m args meth c 10 cX12_rings RX12 n0 s0 4 98) (hr : meth.sig.returnType = none) {K58 : AH → Nat → Int32 → Int32 → Int32 → Int32 → Prop} {K104 : AH → Nat → Int32 → Int32 → Int32 → Int32 → Int32 → Int32 → Prop} (hK58 : ∀ (h : AH) (al0 : Nat) (xl1 : Int32) (xl2 : Int32) (xl3 : Int32) (xl5 : Int32), K58 h al0 xl1 xl2 xl3 xl5 → AW G p l e R s m args below meth c 10 (QM G (pV post) args s below n0 s0) 58 [(0, .ref (G.1 + al0)), (1, .int xl1), (2, .int xl2), (3, .int xl3), (5, .int xl5)] [] h) (hK104 : ∀ (h : AH) (al0 : Nat) (xl1 : Int32) (xl2 : Int32) (xl3 : Int32) (xl5 : Int32) (xl6 : Int32) (xl7 : Int32), K104 h al0 xl1 xl2 xl3 xl5 xl6 xl7 → AW G p l e R s m args below meth c 10 (QM G (pV post) args s below n0 s0) 104 [(0, .ref (G.1 + al0)), (1, .int xl1), (2, .int xl2), (3, .int xl3), (5, .int xl5), (6, .int xl6), (7, .int xl7)] [] h) {h : AH} {al0 : Nat} {xl1 : Int32} {xl2 : Int32} {xl3 : Int32} {xl5 : Int32} {xl6 : Int32} {xl7 : Int32}  (hw : wb_X12_rings_104 K58 K104 h al0 xl1 xl2 xl3 xl5 xl6 xl7 post) : AW G p l e R s m args below meth c 10 (QM G (pV post) args s below n0 s0) 104 [(0, .ref (G.1 + al0)), (1, .int xl1), (2, .int xl2), (3, .int xl3), (5, .int xl5), (6, .int xl6), (7, .int xl7)] [] h := by
  unfold wb_X12_rings_104 at hw
  refine r_iload C dX12_rings_104 6 rfl ?_
  refine r_aload_n C dX12_rings_106 0 rfl ?_
  have hob := hw.1
  obtain ⟨rv1, hp, hw⟩ := hw.2
  refine r_getP C fl_RX12_33_11 hob hp (fun _ _ _ => rfl) dX12_rings_107 ?_
  refine r_iconst (v := 2) C dX12_rings_110 (by decide) ?_
  refine r_iaload C hw.1 hw.2.1 dX12_rings_111 ?_
  replace hw := hw.2.2
  refine r_icmp_ge C dX12_rings_112 237 (by decide) (fun hc => ?_) (fun hc => ?_)
  · replace hw := hw.1 hc
    obtain ⟨iv2, eiv2⟩ : ∃ q : Int32, q = xl5 + 1 := ⟨_, rfl⟩
    replace hw := hw iv2 eiv2
    refine r_iinc C dX12_rings_237 4 rfl (by rw [eiv2]; rfl) [(5, .int iv2), (0, .ref (G.1 + al0)), (1, .int xl1), (2, .int xl2), (3, .int xl3), (6, .int xl6), (7, .int xl7)] (by decide) rfl ?_
    refine r_goto C dX12_rings_240 58 (by decide) ?_
    refine r_sub [1, 2, 3, 4, 0] rfl ?_
    exact hK58 _ _ _ _ _ _ hw
  · replace hw := hw.2 hc
    refine r_iconst (v := 0) C dX12_rings_115 (by decide) ?_
    refine r_istore C dX12_rings_116 [(8, .int 0), (0, .ref (G.1 + al0)), (1, .int xl1), (2, .int xl2), (3, .int xl3), (5, .int xl5), (6, .int xl6), (7, .int xl7)] (by decide) rfl ?_
    refine r_sub [1, 2, 3, 4, 5, 6, 7, 0] rfl ?_
    obtain ⟨n, hw⟩ := hw
    exact tl_X12_rings_118 C hr hK58 hK104 n _ _ _ _ _ _ _ _ _ hw
def wl_X12_rings_104 (K58 : AH → Nat → Int32 → Int32 → Int32 → Int32 → Prop) (post : AH → Prop) : Nat → AH → Nat → Int32 → Int32 → Int32 → Int32 → Int32 → Int32 → Prop
  | 0 => fun _ _ _ _ _ _ _ _ => False
  | n + 1 => fun h al0 xl1 xl2 xl3 xl5 xl6 xl7 => wb_X12_rings_104 K58 (wl_X12_rings_104 K58 post n) h al0 xl1 xl2 xl3 xl5 xl6 xl7 post
theorem tl_X12_rings_104 {G : GG} {p : Program} {l : Launch} {e : Env} {R : Room} {s : State} {m : MethodId} {args : Array Value} {below : List Frame} {meth : Method} {c : Code} {n0 s0 : Nat} {post : AH → Prop} (C : Cx G p R s m args meth c 10 cX12_rings RX12 n0 s0 4 98) (hr : meth.sig.returnType = none) {K58 : AH → Nat → Int32 → Int32 → Int32 → Int32 → Prop} (hK58 : ∀ (h : AH) (al0 : Nat) (xl1 : Int32) (xl2 : Int32) (xl3 : Int32) (xl5 : Int32), K58 h al0 xl1 xl2 xl3 xl5 → AW G p l e R s m args below meth c 10 (QM G (pV post) args s below n0 s0) 58 [(0, .ref (G.1 + al0)), (1, .int xl1), (2, .int xl2), (3, .int xl3), (5, .int xl5)] [] h) : ∀ (n : Nat) (h : AH) (al0 : Nat) (xl1 : Int32) (xl2 : Int32) (xl3 : Int32) (xl5 : Int32) (xl6 : Int32) (xl7 : Int32), wl_X12_rings_104 K58 post n h al0 xl1 xl2 xl3 xl5 xl6 xl7 → AW G p l e R s m args below meth c 10 (QM G (pV post) args s below n0 s0) 104 [(0, .ref (G.1 + al0)), (1, .int xl1), (2, .int xl2), (3, .int xl3), (5, .int xl5), (6, .int xl6), (7, .int xl7)] [] h := by
  intro n
  induction n with
  | zero => intro h al0 xl1 xl2 xl3 xl5 xl6 xl7 hw; exact hw.elim
  | succ n ih => intro h al0 xl1 xl2 xl3 xl5 xl6 xl7 hw; exact tb_X12_rings_104 C hr hK58 ih hw
def wb_X12_rings_80 (K58 : AH → Nat → Int32 → Int32 → Int32 → Int32 → Prop) (h : AH) (al0 : Nat) (xl1 : Int32) (xl2 : Int32) (xl3 : Int32) (xl5 : Int32)  (post : AH → Prop) : Prop := (ob h al0 11) ∧ (∃ rv1, aP h al0 38 = some rv1 ∧ ((ob h rv1 13) ∧ ((vp_in xl5 (aL h rv1)) ∧ (∀ iv2 : Int32, iv2 = aI h rv1 xl5.toNatClampNeg → ((ob h al0 11) ∧ (∃ rv3, aP h al0 35 = some rv3 ∧ ((ob h rv3 13) ∧ ((vp_in iv2 (aL h rv3)) ∧ ((¬ (aI h rv3 iv2.toNatClampNeg) = xl2 → (∃ n, wl_X12_rings_104 K58 post n h al0 xl1 xl2 xl3 xl5 iv2 0)) ∧ ((aI h rv3 iv2.toNatClampNeg) = xl2 → (post h)))))))))))
set_option maxRecDepth 100000 in
theorem tb_X12_rings_80 {G : GG} {p : Program} {l : Launch} {e : Env} {R : Room} {s : State} {m : MethodId} {args : Array Value} {below : List Frame} {meth : Method} {c : Code} {n0 s0 : Nat} {post : AH → Prop} (C : Cx G p R s m args meth c 10 cX12_rings RX12 n0 s0 4 98) (hr : meth.sig.returnType = none) {K58 : AH → Nat → Int32 → Int32 → Int32 → Int32 → Prop} (hK58 : ∀ (h : AH) (al0 : Nat) (xl1 : Int32) (xl2 : Int32) (xl3 : Int32) (xl5 : Int32), K58 h al0 xl1 xl2 xl3 xl5 → AW G p l e R s m args below meth c 10 (QM G (pV post) args s below n0 s0) 58 [(0, .ref (G.1 + al0)), (1, .int xl1), (2, .int xl2), (3, .int xl3), (5, .int xl5)] [] h) {h : AH} {al0 : Nat} {xl1 : Int32} {xl2 : Int32} {xl3 : Int32} {xl5 : Int32}  (hw : wb_X12_rings_80 K58 h al0 xl1 xl2 xl3 xl5 post) : AW G p l e R s m args below meth c 10 (QM G (pV post) args s below n0 s0) 80 [(0, .ref (G.1 + al0)), (1, .int xl1), (2, .int xl2), (3, .int xl3), (5, .int xl5)] [] h := by
  unfold wb_X12_rings_80 at hw
  refine r_aload_n C dX12_rings_80 0 rfl ?_
  have hob := hw.1
  obtain ⟨rv1, hp, hw⟩ := hw.2
  refine r_getP C fl_RX12_78_11 hob hp (fun _ _ _ => rfl) dX12_rings_81 ?_
  refine r_iload C dX12_rings_84 4 rfl ?_
  refine r_iaload C hw.1 hw.2.1 dX12_rings_86 ?_
  replace hw := hw.2.2
  refine r_topi fun iv2 eiv2 => ?_
  replace hw := hw iv2 eiv2
  refine r_istore C dX12_rings_87 [(6, .int iv2), (0, .ref (G.1 + al0)), (1, .int xl1), (2, .int xl2), (3, .int xl3), (5, .int xl5)] (by decide) rfl ?_
  refine r_aload_n C dX12_rings_89 1 rfl ?_
  have hob := hw.1
  obtain ⟨rv3, hp, hw⟩ := hw.2
  refine r_getP C fl_RX12_69_11 hob hp (fun _ _ _ => rfl) dX12_rings_90 ?_
  refine r_iload C dX12_rings_93 0 rfl ?_
  refine r_iaload C hw.1 hw.2.1 dX12_rings_95 ?_
  replace hw := hw.2.2
  refine r_iload_n C dX12_rings_96 3 rfl ?_
  refine r_icmp_ne C dX12_rings_97 101 (by decide) (fun hc => ?_) (fun hc => ?_)
  · replace hw := hw.1 hc
    refine r_iconst (v := 0) C dX12_rings_101 (by decide) ?_
    refine r_istore C dX12_rings_102 [(7, .int 0), (6, .int iv2), (0, .ref (G.1 + al0)), (1, .int xl1), (2, .int xl2), (3, .int xl3), (5, .int xl5)] (by decide) rfl ?_
    refine r_sub [2, 3, 4, 5, 6, 1, 0] rfl ?_
    obtain ⟨n, hw⟩ := hw
    exact tl_X12_rings_104 C hr hK58 n _ _ _ _ _ _ _ _ hw
  · replace hw := hw.2 hc
    exact r_vret C hr dX12_rings_100 hw
def wb_X12_rings_58 (K58 : AH → Nat → Int32 → Int32 → Int32 → Int32 → Prop) (h : AH) (al0 : Nat) (xl1 : Int32) (xl2 : Int32) (xl3 : Int32) (xl5 : Int32)  (post : AH → Prop) : Prop := (ob h al0 11) ∧ (((aI h al0 41) ≤ xl5 → (post h)) ∧ (¬ (aI h al0 41) ≤ xl5 → ((xl3 < 0 → (wb_X12_rings_80 K58 h al0 xl1 xl2 xl3 xl5 post)) ∧ (¬ xl3 < 0 → ((ob h al0 11) ∧ (∃ rv1, aP h al0 35 = some rv1 ∧ ((ob h rv1 13) ∧ ((vp_in xl3 (aL h rv1)) ∧ ((0 ≤ (aI h rv1 xl3.toNatClampNeg) → (post h)) ∧ (¬ 0 ≤ (aI h rv1 xl3.toNatClampNeg) → (wb_X12_rings_80 K58 h al0 xl1 xl2 xl3 xl5 post)))))))))))
set_option maxRecDepth 100000 in
theorem tb_X12_rings_58 {G : GG} {p : Program} {l : Launch} {e : Env} {R : Room} {s : State} {m : MethodId} {args : Array Value} {below : List Frame} {meth : Method} {c : Code} {n0 s0 : Nat} {post : AH → Prop} (C : Cx G p R s m args meth c 10 cX12_rings RX12 n0 s0 4 98) (hr : meth.sig.returnType = none) {K58 : AH → Nat → Int32 → Int32 → Int32 → Int32 → Prop} (hK58 : ∀ (h : AH) (al0 : Nat) (xl1 : Int32) (xl2 : Int32) (xl3 : Int32) (xl5 : Int32), K58 h al0 xl1 xl2 xl3 xl5 → AW G p l e R s m args below meth c 10 (QM G (pV post) args s below n0 s0) 58 [(0, .ref (G.1 + al0)), (1, .int xl1), (2, .int xl2), (3, .int xl3), (5, .int xl5)] [] h) {h : AH} {al0 : Nat} {xl1 : Int32} {xl2 : Int32} {xl3 : Int32} {xl5 : Int32}  (hw : wb_X12_rings_58 K58 h al0 xl1 xl2 xl3 xl5 post) : AW G p l e R s m args below meth c 10 (QM G (pV post) args s below n0 s0) 58 [(0, .ref (G.1 + al0)), (1, .int xl1), (2, .int xl2), (3, .int xl3), (5, .int xl5)] [] h := by
  unfold wb_X12_rings_58 at hw
  refine r_iload C dX12_rings_58 4 rfl ?_
  refine r_aload_n C dX12_rings_60 0 rfl ?_
  refine r_getI C fl_RX12_402_11 hw.1 (fun _ _ _ => rfl) dX12_rings_61 ?_
  replace hw := hw.2
  refine r_icmp_ge C dX12_rings_64 243 (by decide) (fun hc => ?_) (fun hc => ?_)
  · replace hw := hw.1 hc
    exact r_vret C hr dX12_rings_243 hw
  · replace hw := hw.2 hc
    refine r_iload_n C dX12_rings_67 3 rfl ?_
    refine r_if_lt C dX12_rings_68 80 (by decide) (fun hc => ?_) (fun hc => ?_)
    · replace hw := hw.1 hc
      refine r_sub [0, 1, 2, 3, 4] rfl ?_
      exact tb_X12_rings_80 C hr hK58 hw
    · replace hw := hw.2 hc
      refine r_aload_n C dX12_rings_71 0 rfl ?_
      have hob := hw.1
      obtain ⟨rv1, hp, hw⟩ := hw.2
      refine r_getP C fl_RX12_69_11 hob hp (fun _ _ _ => rfl) dX12_rings_72 ?_
      refine r_iload_n C dX12_rings_75 3 rfl ?_
      refine r_iaload C hw.1 hw.2.1 dX12_rings_76 ?_
      replace hw := hw.2.2
      refine r_if_ge C dX12_rings_77 243 (by decide) (fun hc => ?_) (fun hc => ?_)
      · replace hw := hw.1 hc
        exact r_vret C hr dX12_rings_243 hw
      · replace hw := hw.2 hc
        refine r_sub [0, 1, 2, 3, 4] rfl ?_
        exact tb_X12_rings_80 C hr hK58 hw
def wl_X12_rings_58  (post : AH → Prop) : Nat → AH → Nat → Int32 → Int32 → Int32 → Int32 → Prop
  | 0 => fun _ _ _ _ _ _ => False
  | n + 1 => fun h al0 xl1 xl2 xl3 xl5 => wb_X12_rings_58  (wl_X12_rings_58  post n) h al0 xl1 xl2 xl3 xl5 post
theorem tl_X12_rings_58 {G : GG} {p : Program} {l : Launch} {e : Env} {R : Room} {s : State} {m : MethodId} {args : Array Value} {below : List Frame} {meth : Method} {c : Code} {n0 s0 : Nat} {post : AH → Prop} (C : Cx G p R s m args meth c 10 cX12_rings RX12 n0 s0 4 98) (hr : meth.sig.returnType = none)   : ∀ (n : Nat) (h : AH) (al0 : Nat) (xl1 : Int32) (xl2 : Int32) (xl3 : Int32) (xl5 : Int32), wl_X12_rings_58  post n h al0 xl1 xl2 xl3 xl5 → AW G p l e R s m args below meth c 10 (QM G (pV post) args s below n0 s0) 58 [(0, .ref (G.1 + al0)), (1, .int xl1), (2, .int xl2), (3, .int xl3), (5, .int xl5)] [] h := by
  intro n
  induction n with
  | zero => intro h al0 xl1 xl2 xl3 xl5 hw; exact hw.elim
  | succ n ih => intro h al0 xl1 xl2 xl3 xl5 hw; exact tb_X12_rings_58 C hr  ih hw
def wb_X12_rings_3 (K3 : AH → Nat → Int32 → Int32 → Int32 → Int32 → Prop) (h : AH) (al0 : Nat) (xl1 : Int32) (xl2 : Int32) (xl3 : Int32) (xl4 : Int32)  (post : AH → Prop) : Prop := (125000 ≤ xl4 → ((ob h al0 11) ∧ wp_X12_asItIs h al0  (fun hv1  => (ob hv1 al0 11) ∧ wp_X12_code hv1 al0  (fun hv2 iv3 => (ob hv2 al0 11) ∧ (∃ rv4, aP hv2 al0 35 = some rv4 ∧ ((ob hv2 rv4 13) ∧ ((vp_in iv3 (aL hv2 rv4)) ∧ (∀ hv5 : AH, hv5 = hI hv2 rv4 iv3.toNatClampNeg 0 → ((ob hv5 al0 11) ∧ (∃ rv6, aP hv5 al0 38 = some rv6 ∧ ((ob hv5 rv6 13) ∧ ((vp_in 0 (aL hv5 rv6)) ∧ (∀ hv7 : AH, hv7 = hI hv5 rv6 (0 : Int32).toNatClampNeg iv3 → ((ob hv7 al0 11) ∧ (∀ hv8 : AH, hv8 = hI hv7 al0 41 1 → (∃ n, wl_X12_rings_58  post n hv8 al0 xl1 xl2 xl3 0)))))))))))))))) ∧ (¬ 125000 ≤ xl4 → ((ob h al0 11) ∧ (∃ rv9, aP h al0 35 = some rv9 ∧ ((ob h rv9 13) ∧ ((vp_in xl4 (aL h rv9)) ∧ (∀ hv10 : AH, hv10 = hI h rv9 xl4.toNatClampNeg (-1) → (∀ iv11 : Int32, iv11 = xl4 + 1 → (K3 hv10 al0 xl1 xl2 xl3 iv11))))))))
set_option maxRecDepth 100000 in
theorem tb_X12_rings_3 {G : GG} {p : Program} {l : Launch} {e : Env} {R : Room} {s : State} {m : MethodId} {args : Array Value} {below : List Frame} {meth : Method} {c : Code} {n0 s0 : Nat} {post : AH → Prop} (C : Cx G p R s m args meth c 10 cX12_rings RX12 n0 s0 4 98) (hr : meth.sig.returnType = none) {K3 : AH → Nat → Int32 → Int32 → Int32 → Int32 → Prop} (hK3 : ∀ (h : AH) (al0 : Nat) (xl1 : Int32) (xl2 : Int32) (xl3 : Int32) (xl4 : Int32), K3 h al0 xl1 xl2 xl3 xl4 → AW G p l e R s m args below meth c 10 (QM G (pV post) args s below n0 s0) 3 [(0, .ref (G.1 + al0)), (1, .int xl1), (2, .int xl2), (3, .int xl3), (4, .int xl4)] [] h) {h : AH} {al0 : Nat} {xl1 : Int32} {xl2 : Int32} {xl3 : Int32} {xl4 : Int32}  (hw : wb_X12_rings_3 K3 h al0 xl1 xl2 xl3 xl4 post) : AW G p l e R s m args below meth c 10 (QM G (pV post) args s below n0 s0) 3 [(0, .ref (G.1 + al0)), (1, .int xl1), (2, .int xl2), (3, .int xl3), (4, .int xl4)] [] h := by
  unfold wb_X12_rings_3 at hw
  refine r_iload C dX12_rings_3 4 rfl ?_
  refine r_ldc (v := 125000) C (gm6 (List.mem_of_getElem? (i := 199) rfl) rfl) dX12_rings_5 ?_
  refine r_icmp_ge C dX12_rings_7 24 (by decide) (fun hc => ?_) (fun hc => ?_)
  · replace hw := hw.1 hc
    refine r_aload_n C dX12_rings_24 0 rfl ?_
    have hob := hw.1
    replace hw := hw.2
    refine r_callV C (As := []) (rest := []) (c_X12_asItIs G h al0  _ hw) yl_X12_asItIs (gm8 (List.mem_of_getElem? (i := 57) rfl) rfl) (gm8 (List.mem_of_getElem? (i := 59) rfl) rfl) (ci := 11) rfl (by decide) (gsel (List.mem_of_getElem? (i := 70) rfl)) hob (by decide) rfl (Nat.le_of_ble_eq_true rfl) dX12_rings_25 rfl (kV fun hv1  hw => ?_)
    refine r_aload_n C dX12_rings_28 0 rfl ?_
    have hob := hw.1
    replace hw := hw.2
    refine r_callV C (As := []) (rest := []) (c_X12_code G hv1 al0  _ hw) yl_X12_code (gm8 (List.mem_of_getElem? (i := 216) rfl) rfl) (gm8 (List.mem_of_getElem? (i := 218) rfl) rfl) (ci := 11) rfl (by decide) (gsel (List.mem_of_getElem? (i := 93) rfl)) hob (by decide) rfl (Nat.le_of_ble_eq_true rfl) dX12_rings_29 rfl (kI fun hv2 iv3 hw => ?_)
    refine r_istore C dX12_rings_32 [(4, .int iv3), (0, .ref (G.1 + al0)), (1, .int xl1), (2, .int xl2), (3, .int xl3)] (by decide) rfl ?_
    refine r_aload_n C dX12_rings_34 1 rfl ?_
    have hob := hw.1
    obtain ⟨rv4, hp, hw⟩ := hw.2
    refine r_getP C fl_RX12_69_11 hob hp (fun _ _ _ => rfl) dX12_rings_35 ?_
    refine r_iload C dX12_rings_38 0 rfl ?_
    refine r_iconst (v := 0) C dX12_rings_40 (by decide) ?_
    refine r_iastore C hw.1 hw.2.1 dX12_rings_41 ?_
    replace hw := hw.2.2
    refine r_toph fun hv5 ehv5 => ?_
    replace hw := hw hv5 ehv5
    refine r_aload_n C dX12_rings_42 1 rfl ?_
    have hob := hw.1
    obtain ⟨rv6, hp, hw⟩ := hw.2
    refine r_getP C fl_RX12_78_11 hob hp (fun _ _ _ => rfl) dX12_rings_43 ?_
    refine r_iconst (v := 0) C dX12_rings_46 (by decide) ?_
    refine r_iload C dX12_rings_47 0 rfl ?_
    refine r_iastore C hw.1 hw.2.1 dX12_rings_49 ?_
    replace hw := hw.2.2
    refine r_toph fun hv7 ehv7 => ?_
    replace hw := hw hv7 ehv7
    refine r_aload_n C dX12_rings_50 1 rfl ?_
    refine r_iconst (v := 1) C dX12_rings_51 (by decide) ?_
    refine r_putI C fp_RX12_402_11 hw.1 rfl dX12_rings_52 ?_
    replace hw := hw.2
    refine r_toph fun hv8 ehv8 => ?_
    replace hw := hw hv8 ehv8
    refine r_iconst (v := 0) C dX12_rings_55 (by decide) ?_
    refine r_istore C dX12_rings_56 [(5, .int 0), (4, .int iv3), (0, .ref (G.1 + al0)), (1, .int xl1), (2, .int xl2), (3, .int xl3)] (by decide) rfl ?_
    refine r_sub [2, 3, 4, 5, 0] rfl ?_
    obtain ⟨n, hw⟩ := hw
    exact tl_X12_rings_58 C hr  n _ _ _ _ _ _ hw
  · replace hw := hw.2 hc
    refine r_aload_n C dX12_rings_10 0 rfl ?_
    have hob := hw.1
    obtain ⟨rv9, hp, hw⟩ := hw.2
    refine r_getP C fl_RX12_69_11 hob hp (fun _ _ _ => rfl) dX12_rings_11 ?_
    refine r_iload C dX12_rings_14 4 rfl ?_
    refine r_iconst (v := (-1)) C dX12_rings_16 (by decide) ?_
    refine r_iastore C hw.1 hw.2.1 dX12_rings_17 ?_
    replace hw := hw.2.2
    refine r_toph fun hv10 ehv10 => ?_
    replace hw := hw hv10 ehv10
    obtain ⟨iv11, eiv11⟩ : ∃ q : Int32, q = xl4 + 1 := ⟨_, rfl⟩
    replace hw := hw iv11 eiv11
    refine r_iinc C dX12_rings_18 4 rfl (by rw [eiv11]; rfl) [(4, .int iv11), (0, .ref (G.1 + al0)), (1, .int xl1), (2, .int xl2), (3, .int xl3)] (by decide) rfl ?_
    refine r_goto C dX12_rings_21 3 (by decide) ?_
    refine r_sub [1, 2, 3, 4, 0] rfl ?_
    exact hK3 _ _ _ _ _ _ hw
def wl_X12_rings_3  (post : AH → Prop) : Nat → AH → Nat → Int32 → Int32 → Int32 → Int32 → Prop
  | 0 => fun _ _ _ _ _ _ => False
  | n + 1 => fun h al0 xl1 xl2 xl3 xl4 => wb_X12_rings_3  (wl_X12_rings_3  post n) h al0 xl1 xl2 xl3 xl4 post
theorem tl_X12_rings_3 {G : GG} {p : Program} {l : Launch} {e : Env} {R : Room} {s : State} {m : MethodId} {args : Array Value} {below : List Frame} {meth : Method} {c : Code} {n0 s0 : Nat} {post : AH → Prop} (C : Cx G p R s m args meth c 10 cX12_rings RX12 n0 s0 4 98) (hr : meth.sig.returnType = none)   : ∀ (n : Nat) (h : AH) (al0 : Nat) (xl1 : Int32) (xl2 : Int32) (xl3 : Int32) (xl4 : Int32), wl_X12_rings_3  post n h al0 xl1 xl2 xl3 xl4 → AW G p l e R s m args below meth c 10 (QM G (pV post) args s below n0 s0) 3 [(0, .ref (G.1 + al0)), (1, .int xl1), (2, .int xl2), (3, .int xl3), (4, .int xl4)] [] h := by
  intro n
  induction n with
  | zero => intro h al0 xl1 xl2 xl3 xl4 hw; exact hw.elim
  | succ n ih => intro h al0 xl1 xl2 xl3 xl4 hw; exact tb_X12_rings_3 C hr  ih hw
def wp_X12_rings (h : AH) (a0 : Nat) (x1 : Int32) (x2 : Int32) (x3 : Int32) (post : AH → Prop) : Prop := ∃ n, wl_X12_rings_3  post n h a0 x1 x2 x3 0
set_option maxRecDepth 100000 in
theorem c_X12_rings (G : GG) (h : AH) (a0 : Nat) (x1 : Int32) (x2 : Int32) (x3 : Int32) (post : AH → Prop) (hw : wp_X12_rings h a0 x1 x2 x3 post) : MC G yX12_rings cX12_rings 10 none 4 98 h [.ref (G.1 + a0), .int x1, .int x2, .int x3] (pV post) := by
  refine MC.of (lv := [(0, .ref (G.1 + a0)), (1, .int x1), (2, .int x2), (3, .int x3)]) (by decide) (Nat.le_of_ble_eq_true rfl) rfl fun p l e R s m args below meth c C hr hnm => ?_
  unfold wp_X12_rings at hw
  refine r_iconst (v := 0) C dX12_rings_0 (by decide) ?_
  refine r_istore C dX12_rings_1 [(4, .int 0), (0, .ref (G.1 + a0)), (1, .int x1), (2, .int x2), (3, .int x3)] (by decide) rfl ?_
  refine r_sub [1, 2, 3, 4, 0] rfl ?_
  obtain ⟨n, hw⟩ := hw
  exact tl_X12_rings_3 C hr  n _ _ _ _ _ _ hw
theorem dX12_keepFound_0 : decode cX12_keepFound 0 = .ok (.aload_n 0, 1) := by decide +kernel
theorem dX12_keepFound_1 : decode cX12_keepFound 1 = .ok (.getfield 69, 3) := by decide +kernel
theorem dX12_keepFound_4 : decode cX12_keepFound 4 = .ok (.iload_n 1, 1) := by decide +kernel
theorem dX12_keepFound_5 : decode cX12_keepFound 5 = .ok (.iaload, 1) := by decide +kernel
theorem dX12_keepFound_6 : decode cX12_keepFound 6 = .ok (.ifCond .ge 5, 3) := by decide +kernel
theorem dX12_keepFound_9 : decode cX12_keepFound 9 = .ok (.iconst (-1), 1) := by decide +kernel
theorem dX12_keepFound_10 : decode cX12_keepFound 10 = .ok (.ireturn, 1) := by decide +kernel
theorem dX12_keepFound_11 : decode cX12_keepFound 11 = .ok (.aload_n 0, 1) := by decide +kernel
theorem dX12_keepFound_12 : decode cX12_keepFound 12 = .ok (.aload_n 0, 1) := by decide +kernel
theorem dX12_keepFound_13 : decode cX12_keepFound 13 = .ok (.getfield 69, 3) := by decide +kernel
theorem dX12_keepFound_16 : decode cX12_keepFound 16 = .ok (.iload_n 1, 1) := by decide +kernel
theorem dX12_keepFound_17 : decode cX12_keepFound 17 = .ok (.iaload, 1) := by decide +kernel
theorem dX12_keepFound_18 : decode cX12_keepFound 18 = .ok (.putfield 408, 3) := by decide +kernel
theorem dX12_keepFound_21 : decode cX12_keepFound 21 = .ok (.iload_n 1, 1) := by decide +kernel
theorem dX12_keepFound_22 : decode cX12_keepFound 22 = .ok (.istore_n 2, 1) := by decide +kernel
theorem dX12_keepFound_23 : decode cX12_keepFound 23 = .ok (.aload_n 0, 1) := by decide +kernel
theorem dX12_keepFound_24 : decode cX12_keepFound 24 = .ok (.getfield 408, 3) := by decide +kernel
theorem dX12_keepFound_27 : decode cX12_keepFound 27 = .ok (.iconst 1, 1) := by decide +kernel
theorem dX12_keepFound_28 : decode cX12_keepFound 28 = .ok (.isub, 1) := by decide +kernel
theorem dX12_keepFound_29 : decode cX12_keepFound 29 = .ok (.istore_n 3, 1) := by decide +kernel
theorem dX12_keepFound_30 : decode cX12_keepFound 30 = .ok (.iload_n 3, 1) := by decide +kernel
theorem dX12_keepFound_31 : decode cX12_keepFound 31 = .ok (.ifCond .lt 28, 3) := by decide +kernel
theorem dX12_keepFound_34 : decode cX12_keepFound 34 = .ok (.aload_n 0, 1) := by decide +kernel
theorem dX12_keepFound_35 : decode cX12_keepFound 35 = .ok (.getfield 81, 3) := by decide +kernel
theorem dX12_keepFound_38 : decode cX12_keepFound 38 = .ok (.iload_n 3, 1) := by decide +kernel
theorem dX12_keepFound_39 : decode cX12_keepFound 39 = .ok (.aload_n 0, 1) := by decide +kernel
theorem dX12_keepFound_40 : decode cX12_keepFound 40 = .ok (.getfield 75, 3) := by decide +kernel
theorem dX12_keepFound_43 : decode cX12_keepFound 43 = .ok (.iload_n 2, 1) := by decide +kernel
theorem dX12_keepFound_44 : decode cX12_keepFound 44 = .ok (.iaload, 1) := by decide +kernel
theorem dX12_keepFound_45 : decode cX12_keepFound 45 = .ok (.iastore, 1) := by decide +kernel
theorem dX12_keepFound_46 : decode cX12_keepFound 46 = .ok (.aload_n 0, 1) := by decide +kernel
theorem dX12_keepFound_47 : decode cX12_keepFound 47 = .ok (.getfield 72, 3) := by decide +kernel
theorem dX12_keepFound_50 : decode cX12_keepFound 50 = .ok (.iload_n 2, 1) := by decide +kernel
theorem dX12_keepFound_51 : decode cX12_keepFound 51 = .ok (.iaload, 1) := by decide +kernel
theorem dX12_keepFound_52 : decode cX12_keepFound 52 = .ok (.istore_n 2, 1) := by decide +kernel
theorem dX12_keepFound_53 : decode cX12_keepFound 53 = .ok (.iinc 3 (-1), 3) := by decide +kernel
theorem dX12_keepFound_56 : decode cX12_keepFound 56 = .ok (.goto (-26), 3) := by decide +kernel
theorem dX12_keepFound_59 : decode cX12_keepFound 59 = .ok (.aload_n 0, 1) := by decide +kernel
theorem dX12_keepFound_60 : decode cX12_keepFound 60 = .ok (.getfield 408, 3) := by decide +kernel
theorem dX12_keepFound_63 : decode cX12_keepFound 63 = .ok (.ireturn, 1) := by decide +kernel
def wb_X12_keepFound_30 (K30 : AH → Nat → Int32 → Int32 → Prop) (h : AH) (al0 : Nat) (xl2 : Int32) (xl3 : Int32)  (post : AH → Int32 → Prop) : Prop := (xl3 < 0 → ((ob h al0 11) ∧ (post h (aI h al0 40)))) ∧ (¬ xl3 < 0 → ((ob h al0 11) ∧ (∃ rv1, aP h al0 39 = some rv1 ∧ ((ob h al0 11) ∧ (∃ rv2, aP h al0 37 = some rv2 ∧ ((ob h rv2 13) ∧ ((vp_in xl2 (aL h rv2)) ∧ ((ob h rv1 13) ∧ ((vp_in xl3 (aL h rv1)) ∧ (∀ hv3 : AH, hv3 = hI h rv1 xl3.toNatClampNeg (aI h rv2 xl2.toNatClampNeg) → ((ob hv3 al0 11) ∧ (∃ rv4, aP hv3 al0 36 = some rv4 ∧ ((ob hv3 rv4 13) ∧ ((vp_in xl2 (aL hv3 rv4)) ∧ (∀ iv5 : Int32, iv5 = aI hv3 rv4 xl2.toNatClampNeg → (∀ iv6 : Int32, iv6 = xl3 + (-1) → (K30 hv3 al0 iv5 iv6)))))))))))))))))
set_option maxRecDepth 100000 in
theorem tb_X12_keepFound_30 {G : GG} {p : Program} {l : Launch} {e : Env} {R : Room} {s : State} {m : MethodId} {args : Array Value} {below : List Frame} {meth : Method} {c : Code} {n0 s0 : Nat} {post : AH → Int32 → Prop} (C : Cx G p R s m args meth c 4 cX12_keepFound RX12 n0 s0 0 0) (hr : meth.sig.returnType = (some .int)) {K30 : AH → Nat → Int32 → Int32 → Prop} (hK30 : ∀ (h : AH) (al0 : Nat) (xl2 : Int32) (xl3 : Int32), K30 h al0 xl2 xl3 → AW G p l e R s m args below meth c 4 (QM G (pI post) args s below n0 s0) 30 [(0, .ref (G.1 + al0)), (2, .int xl2), (3, .int xl3)] [] h) {h : AH} {al0 : Nat} {xl2 : Int32} {xl3 : Int32}  (hw : wb_X12_keepFound_30 K30 h al0 xl2 xl3 post) : AW G p l e R s m args below meth c 4 (QM G (pI post) args s below n0 s0) 30 [(0, .ref (G.1 + al0)), (2, .int xl2), (3, .int xl3)] [] h := by
  unfold wb_X12_keepFound_30 at hw
  refine r_iload_n C dX12_keepFound_30 2 rfl ?_
  refine r_if_lt C dX12_keepFound_31 59 (by decide) (fun hc => ?_) (fun hc => ?_)
  · replace hw := hw.1 hc
    refine r_aload_n C dX12_keepFound_59 0 rfl ?_
    refine r_getI C fl_RX12_408_11 hw.1 (fun _ _ _ => rfl) dX12_keepFound_60 ?_
    replace hw := hw.2
    exact r_iret C hr dX12_keepFound_63 hw
  · replace hw := hw.2 hc
    refine r_aload_n C dX12_keepFound_34 0 rfl ?_
    have hob := hw.1
    obtain ⟨rv1, hp, hw⟩ := hw.2
    refine r_getP C fl_RX12_81_11 hob hp (fun _ _ _ => rfl) dX12_keepFound_35 ?_
    refine r_iload_n C dX12_keepFound_38 2 rfl ?_
    refine r_aload_n C dX12_keepFound_39 0 rfl ?_
    have hob := hw.1
    obtain ⟨rv2, hp, hw⟩ := hw.2
    refine r_getP C fl_RX12_75_11 hob hp (fun _ _ _ => rfl) dX12_keepFound_40 ?_
    refine r_iload_n C dX12_keepFound_43 1 rfl ?_
    refine r_iaload C hw.1 hw.2.1 dX12_keepFound_44 ?_
    replace hw := hw.2.2
    refine r_iastore C hw.1 hw.2.1 dX12_keepFound_45 ?_
    replace hw := hw.2.2
    refine r_toph fun hv3 ehv3 => ?_
    replace hw := hw hv3 ehv3
    refine r_aload_n C dX12_keepFound_46 0 rfl ?_
    have hob := hw.1
    obtain ⟨rv4, hp, hw⟩ := hw.2
    refine r_getP C fl_RX12_72_11 hob hp (fun _ _ _ => rfl) dX12_keepFound_47 ?_
    refine r_iload_n C dX12_keepFound_50 1 rfl ?_
    refine r_iaload C hw.1 hw.2.1 dX12_keepFound_51 ?_
    replace hw := hw.2.2
    refine r_topi fun iv5 eiv5 => ?_
    replace hw := hw iv5 eiv5
    refine r_istore_n C dX12_keepFound_52 [(2, .int iv5), (0, .ref (G.1 + al0)), (3, .int xl3)] (by decide) rfl ?_
    obtain ⟨iv6, eiv6⟩ : ∃ q : Int32, q = xl3 + (-1) := ⟨_, rfl⟩
    replace hw := hw iv6 eiv6
    refine r_iinc C dX12_keepFound_53 2 rfl (by rw [eiv6]; rfl) [(3, .int iv6), (2, .int iv5), (0, .ref (G.1 + al0))] (by decide) rfl ?_
    refine r_goto C dX12_keepFound_56 30 (by decide) ?_
    refine r_sub [2, 1, 0] rfl ?_
    exact hK30 _ _ _ _ hw
def wl_X12_keepFound_30  (post : AH → Int32 → Prop) : Nat → AH → Nat → Int32 → Int32 → Prop
  | 0 => fun _ _ _ _ => False
  | n + 1 => fun h al0 xl2 xl3 => wb_X12_keepFound_30  (wl_X12_keepFound_30  post n) h al0 xl2 xl3 post
theorem tl_X12_keepFound_30 {G : GG} {p : Program} {l : Launch} {e : Env} {R : Room} {s : State} {m : MethodId} {args : Array Value} {below : List Frame} {meth : Method} {c : Code} {n0 s0 : Nat} {post : AH → Int32 → Prop} (C : Cx G p R s m args meth c 4 cX12_keepFound RX12 n0 s0 0 0) (hr : meth.sig.returnType = (some .int))   : ∀ (n : Nat) (h : AH) (al0 : Nat) (xl2 : Int32) (xl3 : Int32), wl_X12_keepFound_30  post n h al0 xl2 xl3 → AW G p l e R s m args below meth c 4 (QM G (pI post) args s below n0 s0) 30 [(0, .ref (G.1 + al0)), (2, .int xl2), (3, .int xl3)] [] h := by
  intro n
  induction n with
  | zero => intro h al0 xl2 xl3 hw; exact hw.elim
  | succ n ih => intro h al0 xl2 xl3 hw; exact tb_X12_keepFound_30 C hr  ih hw
def wp_X12_keepFound (h : AH) (a0 : Nat) (x1 : Int32) (post : AH → Int32 → Prop) : Prop := (ob h a0 11) ∧ (∃ rv1, aP h a0 35 = some rv1 ∧ ((ob h rv1 13) ∧ ((vp_in x1 (aL h rv1)) ∧ ((0 ≤ (aI h rv1 x1.toNatClampNeg) → ((ob h a0 11) ∧ (∃ rv2, aP h a0 35 = some rv2 ∧ ((ob h rv2 13) ∧ ((vp_in x1 (aL h rv2)) ∧ ((ob h a0 11) ∧ (∀ hv3 : AH, hv3 = hI h a0 40 (aI h rv2 x1.toNatClampNeg) → ((ob hv3 a0 11) ∧ (∀ iv4 : Int32, iv4 = (aI hv3 a0 40) - (1 : Int32) → (∃ n, wl_X12_keepFound_30  post n hv3 a0 x1 iv4)))))))))) ∧ (¬ 0 ≤ (aI h rv1 x1.toNatClampNeg) → (post h (-1)))))))
set_option maxRecDepth 100000 in
theorem c_X12_keepFound (G : GG) (h : AH) (a0 : Nat) (x1 : Int32) (post : AH → Int32 → Prop) (hw : wp_X12_keepFound h a0 x1 post) : MC G yX12_keepFound cX12_keepFound 4 (some .int) 0 0 h [.ref (G.1 + a0), .int x1] (pI post) := by
  refine MC.of (lv := [(0, .ref (G.1 + a0)), (1, .int x1)]) (by decide) (Nat.le_of_ble_eq_true rfl) rfl fun p l e R s m args below meth c C hr hnm => ?_
  unfold wp_X12_keepFound at hw
  refine r_aload_n C dX12_keepFound_0 0 rfl ?_
  have hob := hw.1
  obtain ⟨rv1, hp, hw⟩ := hw.2
  refine r_getP C fl_RX12_69_11 hob hp (fun _ _ _ => rfl) dX12_keepFound_1 ?_
  refine r_iload_n C dX12_keepFound_4 1 rfl ?_
  refine r_iaload C hw.1 hw.2.1 dX12_keepFound_5 ?_
  replace hw := hw.2.2
  refine r_if_ge C dX12_keepFound_6 11 (by decide) (fun hc => ?_) (fun hc => ?_)
  · replace hw := hw.1 hc
    refine r_aload_n C dX12_keepFound_11 0 rfl ?_
    refine r_aload_n C dX12_keepFound_12 0 rfl ?_
    have hob := hw.1
    obtain ⟨rv2, hp, hw⟩ := hw.2
    refine r_getP C fl_RX12_69_11 hob hp (fun _ _ _ => rfl) dX12_keepFound_13 ?_
    refine r_iload_n C dX12_keepFound_16 1 rfl ?_
    refine r_iaload C hw.1 hw.2.1 dX12_keepFound_17 ?_
    replace hw := hw.2.2
    refine r_putI C fp_RX12_408_11 hw.1 rfl dX12_keepFound_18 ?_
    replace hw := hw.2
    refine r_toph fun hv3 ehv3 => ?_
    replace hw := hw hv3 ehv3
    refine r_iload_n C dX12_keepFound_21 1 rfl ?_
    refine r_istore_n C dX12_keepFound_22 [(2, .int x1), (0, .ref (G.1 + a0)), (1, .int x1)] (by decide) rfl ?_
    refine r_aload_n C dX12_keepFound_23 1 rfl ?_
    refine r_getI C fl_RX12_408_11 hw.1 (fun _ _ _ => rfl) dX12_keepFound_24 ?_
    replace hw := hw.2
    refine r_iconst (v := 1) C dX12_keepFound_27 (by decide) ?_
    refine r_isub C dX12_keepFound_28 ?_
    refine r_topi fun iv4 eiv4 => ?_
    replace hw := hw iv4 eiv4
    refine r_istore_n C dX12_keepFound_29 [(3, .int iv4), (2, .int x1), (0, .ref (G.1 + a0)), (1, .int x1)] (by decide) rfl ?_
    refine r_sub [2, 1, 0] rfl ?_
    obtain ⟨n, hw⟩ := hw
    exact tl_X12_keepFound_30 C hr  n _ _ _ _ hw
  · replace hw := hw.2 hc
    refine r_iconst (v := (-1)) C dX12_keepFound_9 (by decide) ?_
    exact r_iret C hr dX12_keepFound_10 hw
theorem dX12_least_0 : decode cX12_least 0 = .ok (.aload_n 0, 1) := by decide +kernel
theorem dX12_least_1 : decode cX12_least 1 = .ok (.iconst 0, 1) := by decide +kernel
theorem dX12_least_2 : decode cX12_least 2 = .ok (.putfield 1, 3) := by decide +kernel
theorem dX12_least_5 : decode cX12_least 5 = .ok (.aload_n 0, 1) := by decide +kernel
theorem dX12_least_6 : decode cX12_least 6 = .ok (.invokevirtual 332, 3) := by decide +kernel
theorem dX12_least_9 : decode cX12_least 9 = .ok (.istore_n 2, 1) := by decide +kernel
theorem dX12_least_10 : decode cX12_least 10 = .ok (.iload_n 2, 1) := by decide +kernel
theorem dX12_least_11 : decode cX12_least 11 = .ok (.ifCond .eq 17, 3) := by decide +kernel
theorem dX12_least_14 : decode cX12_least 14 = .ok (.iload_n 1, 1) := by decide +kernel
theorem dX12_least_15 : decode cX12_least 15 = .ok (.invokestatic 290, 3) := by decide +kernel
theorem dX12_least_18 : decode cX12_least 18 = .ok (.ifCond .eq 10, 3) := by decide +kernel
theorem dX12_least_21 : decode cX12_least 21 = .ok (.aload_n 0, 1) := by decide +kernel
theorem dX12_least_22 : decode cX12_least 22 = .ok (.invokevirtual 411, 3) := by decide +kernel
theorem dX12_least_25 : decode cX12_least 25 = .ok (.ifCond .ne 6, 3) := by decide +kernel
theorem dX12_least_28 : decode cX12_least 28 = .ok (.bipush (-2), 2) := by decide +kernel
theorem dX12_least_30 : decode cX12_least 30 = .ok (.ireturn, 1) := by decide +kernel
theorem dX12_least_31 : decode cX12_least 31 = .ok (.aload_n 0, 1) := by decide +kernel
theorem dX12_least_32 : decode cX12_least 32 = .ok (.invokevirtual 399, 3) := by decide +kernel
theorem dX12_least_35 : decode cX12_least 35 = .ok (.istore_n 3, 1) := by decide +kernel
theorem dX12_least_36 : decode cX12_least 36 = .ok (.aload_n 0, 1) := by decide +kernel
theorem dX12_least_37 : decode cX12_least 37 = .ok (.iload_n 1, 1) := by decide +kernel
theorem dX12_least_38 : decode cX12_least 38 = .ok (.ldc_w 414, 3) := by decide +kernel
theorem dX12_least_41 : decode cX12_least 41 = .ok (.iload_n 3, 1) := by decide +kernel
theorem dX12_least_42 : decode cX12_least 42 = .ok (.invokevirtual 415, 3) := by decide +kernel
theorem dX12_least_45 : decode cX12_least 45 = .ok (.aload_n 0, 1) := by decide +kernel
theorem dX12_least_46 : decode cX12_least 46 = .ok (.iload_n 3, 1) := by decide +kernel
theorem dX12_least_47 : decode cX12_least 47 = .ok (.invokevirtual 418, 3) := by decide +kernel
theorem dX12_least_50 : decode cX12_least 50 = .ok (.ireturn, 1) := by decide +kernel
def wp_X12_least (h : AH) (a0 : Nat) (x1 : Int32) (post : AH → Int32 → Prop) : Prop := (ob h a0 11) ∧ (∀ hv1 : AH, hv1 = hI h a0 0 0 → ((ob hv1 a0 11) ∧ wp_X12_takesTown hv1 a0  (fun hv2 iv3 => (iv3 = 0 → (post hv2 (-2))) ∧ (¬ iv3 = 0 → (wp_X12_isHour hv2 x1 (fun hv4 iv5 => (iv5 = 0 → (post hv4 (-2))) ∧ (¬ iv5 = 0 → ((ob hv4 a0 11) ∧ wp_X12_isFew hv4 a0  (fun hv6 iv7 => (¬ iv7 = 0 → ((ob hv6 a0 11) ∧ wp_X12_code hv6 a0  (fun hv8 iv9 => (ob hv8 a0 11) ∧ wp_X12_rings hv8 a0 x1 1000000000 iv9 (fun hv10  => (ob hv10 a0 11) ∧ wp_X12_keepFound hv10 a0 iv9 (fun hv11 iv12 => post hv11 iv12))))) ∧ (iv7 = 0 → (post hv6 (-2))))))))))))
set_option maxRecDepth 100000 in
theorem c_X12_least (G : GG) (h : AH) (a0 : Nat) (x1 : Int32) (post : AH → Int32 → Prop) (hw : wp_X12_least h a0 x1 post) : MC G yX12_least cX12_least 4 (some .int) 5 127 h [.ref (G.1 + a0), .int x1] (pI post) := by
  refine MC.of (lv := [(0, .ref (G.1 + a0)), (1, .int x1)]) (by decide) (Nat.le_of_ble_eq_true rfl) rfl fun p l e R s m args below meth c C hr hnm => ?_
  unfold wp_X12_least at hw
  refine r_aload_n C dX12_least_0 0 rfl ?_
  refine r_iconst (v := 0) C dX12_least_1 (by decide) ?_
  refine r_putI C fp_RX12_1_11 hw.1 rfl dX12_least_2 ?_
  replace hw := hw.2
  refine r_toph fun hv1 ehv1 => ?_
  replace hw := hw hv1 ehv1
  refine r_aload_n C dX12_least_5 0 rfl ?_
  have hob := hw.1
  replace hw := hw.2
  refine r_callV C (As := []) (rest := []) (c_X12_takesTown G hv1 a0  _ hw) yl_X12_takesTown (gm8 (List.mem_of_getElem? (i := 73) rfl) rfl) (gm8 (List.mem_of_getElem? (i := 75) rfl) rfl) (ci := 11) rfl (by decide) (gsel (List.mem_of_getElem? (i := 72) rfl)) hob (by decide) rfl (Nat.le_of_ble_eq_true rfl) dX12_least_6 rfl (kI fun hv2 iv3 hw => ?_)
  refine r_istore_n C dX12_least_9 [(2, .int iv3), (0, .ref (G.1 + a0)), (1, .int x1)] (by decide) rfl ?_
  refine r_iload_n C dX12_least_10 0 rfl ?_
  refine r_if_eq C dX12_least_11 28 (by decide) (fun hc => ?_) (fun hc => ?_)
  · replace hw := hw.1 hc
    refine r_bipush (v := (-2)) C dX12_least_28 (by decide) ?_
    exact r_iret C hr dX12_least_30 hw
  · replace hw := hw.2 hc
    refine r_iload_n C dX12_least_14 2 rfl ?_
    refine r_callS C (As := [.int x1]) (rest := []) (c_X12_isHour G hv2 x1 _ hw) yl_X12_isHour (gm8 (List.mem_of_getElem? (i := 38) rfl) rfl) (gm8 (List.mem_of_getElem? (i := 39) rfl) rfl) (by decide) rfl (Nat.le_of_ble_eq_true rfl) dX12_least_15 rfl (kI fun hv4 iv5 hw => ?_)
    refine r_if_eq C dX12_least_18 28 (by decide) (fun hc => ?_) (fun hc => ?_)
    · replace hw := hw.1 hc
      refine r_bipush (v := (-2)) C dX12_least_28 (by decide) ?_
      exact r_iret C hr dX12_least_30 hw
    · replace hw := hw.2 hc
      refine r_aload_n C dX12_least_21 1 rfl ?_
      have hob := hw.1
      replace hw := hw.2
      refine r_callV C (As := []) (rest := []) (c_X12_isFew G hv4 a0  _ hw) yl_X12_isFew (gm8 (List.mem_of_getElem? (i := 212) rfl) rfl) (gm8 (List.mem_of_getElem? (i := 214) rfl) rfl) (ci := 11) rfl (by decide) (gsel (List.mem_of_getElem? (i := 92) rfl)) hob (by decide) rfl (Nat.le_of_ble_eq_true rfl) dX12_least_22 rfl (kI fun hv6 iv7 hw => ?_)
      refine r_if_ne C dX12_least_25 31 (by decide) (fun hc => ?_) (fun hc => ?_)
      · replace hw := hw.1 hc
        refine r_aload_n C dX12_least_31 1 rfl ?_
        have hob := hw.1
        replace hw := hw.2
        refine r_callV C (As := []) (rest := []) (c_X12_code G hv6 a0  _ hw) yl_X12_code (gm8 (List.mem_of_getElem? (i := 216) rfl) rfl) (gm8 (List.mem_of_getElem? (i := 218) rfl) rfl) (ci := 11) rfl (by decide) (gsel (List.mem_of_getElem? (i := 93) rfl)) hob (by decide) rfl (Nat.le_of_ble_eq_true rfl) dX12_least_32 rfl (kI fun hv8 iv9 hw => ?_)
        refine r_istore_n C dX12_least_35 [(3, .int iv9), (2, .int iv3), (0, .ref (G.1 + a0)), (1, .int x1)] (by decide) rfl ?_
        refine r_aload_n C dX12_least_36 2 rfl ?_
        refine r_iload_n C dX12_least_37 3 rfl ?_
        refine r_ldcw (v := 1000000000) C (gm8 (List.mem_of_getElem? (i := 220) rfl) rfl) dX12_least_38 ?_
        refine r_iload_n C dX12_least_41 0 rfl ?_
        have hob := hw.1
        replace hw := hw.2
        refine r_callV C (As := [.int x1, .int 1000000000, .int iv9]) (rest := []) (c_X12_rings G hv8 a0 x1 1000000000 iv9 _ hw) yl_X12_rings (gm8 (List.mem_of_getElem? (i := 221) rfl) rfl) (gm8 (List.mem_of_getElem? (i := 223) rfl) rfl) (ci := 11) rfl (by decide) (gsel (List.mem_of_getElem? (i := 94) rfl)) hob (by decide) rfl (Nat.le_of_ble_eq_true rfl) dX12_least_42 rfl (kV fun hv10  hw => ?_)
        refine r_aload_n C dX12_least_45 2 rfl ?_
        refine r_iload_n C dX12_least_46 0 rfl ?_
        have hob := hw.1
        replace hw := hw.2
        refine r_callV C (As := [.int iv9]) (rest := []) (c_X12_keepFound G hv10 a0 iv9 _ hw) yl_X12_keepFound (gm8 (List.mem_of_getElem? (i := 229) rfl) rfl) (gm8 (List.mem_of_getElem? (i := 231) rfl) rfl) (ci := 11) rfl (by decide) (gsel (List.mem_of_getElem? (i := 96) rfl)) hob (by decide) rfl (Nat.le_of_ble_eq_true rfl) dX12_least_47 rfl (kI fun hv11 iv12 hw => ?_)
        exact r_iret C hr dX12_least_50 hw
      · replace hw := hw.2 hc
        refine r_bipush (v := (-2)) C dX12_least_28 (by decide) ?_
        exact r_iret C hr dX12_least_30 hw
theorem dX12_changed_0 : decode cX12_changed 0 = .ok (.aload_n 0, 1) := by decide +kernel
theorem dX12_changed_1 : decode cX12_changed 1 = .ok (.iconst 0, 1) := by decide +kernel
theorem dX12_changed_2 : decode cX12_changed 2 = .ok (.putfield 1, 3) := by decide +kernel
theorem dX12_changed_5 : decode cX12_changed 5 = .ok (.aload_n 0, 1) := by decide +kernel
theorem dX12_changed_6 : decode cX12_changed 6 = .ok (.iload_n 1, 1) := by decide +kernel
theorem dX12_changed_7 : decode cX12_changed 7 = .ok (.invokevirtual 310, 3) := by decide +kernel
theorem dX12_changed_10 : decode cX12_changed 10 = .ok (.ifCond .eq 30, 3) := by decide +kernel
theorem dX12_changed_13 : decode cX12_changed 13 = .ok (.aload_n 0, 1) := by decide +kernel
theorem dX12_changed_14 : decode cX12_changed 14 = .ok (.iload_n 2, 1) := by decide +kernel
theorem dX12_changed_15 : decode cX12_changed 15 = .ok (.invokevirtual 310, 3) := by decide +kernel
theorem dX12_changed_18 : decode cX12_changed 18 = .ok (.ifCond .eq 22, 3) := by decide +kernel
theorem dX12_changed_21 : decode cX12_changed 21 = .ok (.iload_n 1, 1) := by decide +kernel
theorem dX12_changed_22 : decode cX12_changed 22 = .ok (.iload_n 2, 1) := by decide +kernel
theorem dX12_changed_23 : decode cX12_changed 23 = .ok (.if_icmp .eq 17, 3) := by decide +kernel
theorem dX12_changed_26 : decode cX12_changed 26 = .ok (.iload_n 3, 1) := by decide +kernel
theorem dX12_changed_27 : decode cX12_changed 27 = .ok (.invokestatic 290, 3) := by decide +kernel
theorem dX12_changed_30 : decode cX12_changed 30 = .ok (.ifCond .eq 10, 3) := by decide +kernel
theorem dX12_changed_33 : decode cX12_changed 33 = .ok (.aload_n 0, 1) := by decide +kernel
theorem dX12_changed_34 : decode cX12_changed 34 = .ok (.invokevirtual 411, 3) := by decide +kernel
theorem dX12_changed_37 : decode cX12_changed 37 = .ok (.ifCond .ne 6, 3) := by decide +kernel
theorem dX12_changed_40 : decode cX12_changed 40 = .ok (.bipush (-2), 2) := by decide +kernel
theorem dX12_changed_42 : decode cX12_changed 42 = .ok (.ireturn, 1) := by decide +kernel
theorem dX12_changed_43 : decode cX12_changed 43 = .ok (.aload_n 0, 1) := by decide +kernel
theorem dX12_changed_44 : decode cX12_changed 44 = .ok (.invokevirtual 317, 3) := by decide +kernel
theorem dX12_changed_47 : decode cX12_changed 47 = .ok (.iconst 0, 1) := by decide +kernel
theorem dX12_changed_48 : decode cX12_changed 48 = .ok (.istore 4, 2) := by decide +kernel
theorem dX12_changed_50 : decode cX12_changed 50 = .ok (.iload 4, 2) := by decide +kernel
theorem dX12_changed_52 : decode cX12_changed 52 = .ok (.iconst 2, 1) := by decide +kernel
theorem dX12_changed_53 : decode cX12_changed 53 = .ok (.if_icmp .ge 57, 3) := by decide +kernel
theorem dX12_changed_56 : decode cX12_changed 56 = .ok (.aload_n 0, 1) := by decide +kernel
theorem dX12_changed_57 : decode cX12_changed 57 = .ok (.getfield 50, 3) := by decide +kernel
theorem dX12_changed_60 : decode cX12_changed 60 = .ok (.iconst 3, 1) := by decide +kernel
theorem dX12_changed_61 : decode cX12_changed 61 = .ok (.iload_n 1, 1) := by decide +kernel
theorem dX12_changed_62 : decode cX12_changed 62 = .ok (.imul, 1) := by decide +kernel
theorem dX12_changed_63 : decode cX12_changed 63 = .ok (.iload 4, 2) := by decide +kernel
theorem dX12_changed_65 : decode cX12_changed 65 = .ok (.iadd, 1) := by decide +kernel
theorem dX12_changed_66 : decode cX12_changed 66 = .ok (.iaload, 1) := by decide +kernel
theorem dX12_changed_67 : decode cX12_changed 67 = .ok (.istore 5, 2) := by decide +kernel
theorem dX12_changed_69 : decode cX12_changed 69 = .ok (.aload_n 0, 1) := by decide +kernel
theorem dX12_changed_70 : decode cX12_changed 70 = .ok (.getfield 50, 3) := by decide +kernel
theorem dX12_changed_73 : decode cX12_changed 73 = .ok (.iconst 3, 1) := by decide +kernel
theorem dX12_changed_74 : decode cX12_changed 74 = .ok (.iload_n 1, 1) := by decide +kernel
theorem dX12_changed_75 : decode cX12_changed 75 = .ok (.imul, 1) := by decide +kernel
theorem dX12_changed_76 : decode cX12_changed 76 = .ok (.iload 4, 2) := by decide +kernel
theorem dX12_changed_78 : decode cX12_changed 78 = .ok (.iadd, 1) := by decide +kernel
theorem dX12_changed_79 : decode cX12_changed 79 = .ok (.aload_n 0, 1) := by decide +kernel
theorem dX12_changed_80 : decode cX12_changed 80 = .ok (.getfield 50, 3) := by decide +kernel
theorem dX12_changed_83 : decode cX12_changed 83 = .ok (.iconst 3, 1) := by decide +kernel
theorem dX12_changed_84 : decode cX12_changed 84 = .ok (.iload_n 2, 1) := by decide +kernel
theorem dX12_changed_85 : decode cX12_changed 85 = .ok (.imul, 1) := by decide +kernel
theorem dX12_changed_86 : decode cX12_changed 86 = .ok (.iload 4, 2) := by decide +kernel
theorem dX12_changed_88 : decode cX12_changed 88 = .ok (.iadd, 1) := by decide +kernel
theorem dX12_changed_89 : decode cX12_changed 89 = .ok (.iaload, 1) := by decide +kernel
theorem dX12_changed_90 : decode cX12_changed 90 = .ok (.iastore, 1) := by decide +kernel
theorem dX12_changed_91 : decode cX12_changed 91 = .ok (.aload_n 0, 1) := by decide +kernel
theorem dX12_changed_92 : decode cX12_changed 92 = .ok (.getfield 50, 3) := by decide +kernel
theorem dX12_changed_95 : decode cX12_changed 95 = .ok (.iconst 3, 1) := by decide +kernel
theorem dX12_changed_96 : decode cX12_changed 96 = .ok (.iload_n 2, 1) := by decide +kernel
theorem dX12_changed_97 : decode cX12_changed 97 = .ok (.imul, 1) := by decide +kernel
theorem dX12_changed_98 : decode cX12_changed 98 = .ok (.iload 4, 2) := by decide +kernel
theorem dX12_changed_100 : decode cX12_changed 100 = .ok (.iadd, 1) := by decide +kernel
theorem dX12_changed_101 : decode cX12_changed 101 = .ok (.iload 5, 2) := by decide +kernel
theorem dX12_changed_103 : decode cX12_changed 103 = .ok (.iastore, 1) := by decide +kernel
theorem dX12_changed_104 : decode cX12_changed 104 = .ok (.iinc 4 1, 3) := by decide +kernel
theorem dX12_changed_107 : decode cX12_changed 107 = .ok (.goto (-57), 3) := by decide +kernel
theorem dX12_changed_110 : decode cX12_changed 110 = .ok (.aload_n 0, 1) := by decide +kernel
theorem dX12_changed_111 : decode cX12_changed 111 = .ok (.invokevirtual 323, 3) := by decide +kernel
theorem dX12_changed_114 : decode cX12_changed 114 = .ok (.ifCond .ne 6, 3) := by decide +kernel
theorem dX12_changed_117 : decode cX12_changed 117 = .ok (.bipush (-2), 2) := by decide +kernel
theorem dX12_changed_119 : decode cX12_changed 119 = .ok (.ireturn, 1) := by decide +kernel
theorem dX12_changed_120 : decode cX12_changed 120 = .ok (.aload_n 0, 1) := by decide +kernel
theorem dX12_changed_121 : decode cX12_changed 121 = .ok (.invokevirtual 399, 3) := by decide +kernel
theorem dX12_changed_124 : decode cX12_changed 124 = .ok (.istore 4, 2) := by decide +kernel
theorem dX12_changed_126 : decode cX12_changed 126 = .ok (.aload_n 0, 1) := by decide +kernel
theorem dX12_changed_127 : decode cX12_changed 127 = .ok (.iload_n 3, 1) := by decide +kernel
theorem dX12_changed_128 : decode cX12_changed 128 = .ok (.ldc_w 414, 3) := by decide +kernel
theorem dX12_changed_131 : decode cX12_changed 131 = .ok (.iload 4, 2) := by decide +kernel
theorem dX12_changed_133 : decode cX12_changed 133 = .ok (.invokevirtual 415, 3) := by decide +kernel
theorem dX12_changed_136 : decode cX12_changed 136 = .ok (.aload_n 0, 1) := by decide +kernel
theorem dX12_changed_137 : decode cX12_changed 137 = .ok (.iload 4, 2) := by decide +kernel
theorem dX12_changed_139 : decode cX12_changed 139 = .ok (.invokevirtual 418, 3) := by decide +kernel
theorem dX12_changed_142 : decode cX12_changed 142 = .ok (.ireturn, 1) := by decide +kernel
def wb_X12_changed_50 (K50 : AH → Nat → Int32 → Int32 → Int32 → Int32 → Prop) (h : AH) (al0 : Nat) (xl1 : Int32) (xl2 : Int32) (xl3 : Int32) (xl4 : Int32)  (post : AH → Int32 → Prop) : Prop := (2 ≤ xl4 → ((ob h al0 11) ∧ wp_X12_isTown h al0  (fun hv1 iv2 => (¬ iv2 = 0 → ((ob hv1 al0 11) ∧ wp_X12_code hv1 al0  (fun hv3 iv4 => (ob hv3 al0 11) ∧ wp_X12_rings hv3 al0 xl3 1000000000 iv4 (fun hv5  => (ob hv5 al0 11) ∧ wp_X12_keepFound hv5 al0 iv4 (fun hv6 iv7 => post hv6 iv7))))) ∧ (iv2 = 0 → (post hv1 (-2)))))) ∧ (¬ 2 ≤ xl4 → ((ob h al0 11) ∧ (∃ rv8, aP h al0 24 = some rv8 ∧ ((ob h rv8 13) ∧ ((vp_in (((3 : Int32) * xl1) + xl4) (aL h rv8)) ∧ (∀ iv9 : Int32, iv9 = aI h rv8 (((3 : Int32) * xl1) + xl4).toNatClampNeg → ((ob h al0 11) ∧ (∃ rv10, aP h al0 24 = some rv10 ∧ ((ob h al0 11) ∧ (∃ rv11, aP h al0 24 = some rv11 ∧ ((ob h rv11 13) ∧ ((vp_in (((3 : Int32) * xl2) + xl4) (aL h rv11)) ∧ ((ob h rv10 13) ∧ ((vp_in (((3 : Int32) * xl1) + xl4) (aL h rv10)) ∧ (∀ hv12 : AH, hv12 = hI h rv10 (((3 : Int32) * xl1) + xl4).toNatClampNeg (aI h rv11 (((3 : Int32) * xl2) + xl4).toNatClampNeg) → ((ob hv12 al0 11) ∧ (∃ rv13, aP hv12 al0 24 = some rv13 ∧ ((ob hv12 rv13 13) ∧ ((vp_in (((3 : Int32) * xl2) + xl4) (aL hv12 rv13)) ∧ (∀ hv14 : AH, hv14 = hI hv12 rv13 (((3 : Int32) * xl2) + xl4).toNatClampNeg iv9 → (∀ iv15 : Int32, iv15 = xl4 + 1 → (K50 hv14 al0 xl1 xl2 xl3 iv15))))))))))))))))))))))
set_option maxRecDepth 100000 in
theorem tb_X12_changed_50 {G : GG} {p : Program} {l : Launch} {e : Env} {R : Room} {s : State} {m : MethodId} {args : Array Value} {below : List Frame} {meth : Method} {c : Code} {n0 s0 : Nat} {post : AH → Int32 → Prop} (C : Cx G p R s m args meth c 6 cX12_changed RX12 n0 s0 5 127) (hr : meth.sig.returnType = (some .int)) {K50 : AH → Nat → Int32 → Int32 → Int32 → Int32 → Prop} (hK50 : ∀ (h : AH) (al0 : Nat) (xl1 : Int32) (xl2 : Int32) (xl3 : Int32) (xl4 : Int32), K50 h al0 xl1 xl2 xl3 xl4 → AW G p l e R s m args below meth c 6 (QM G (pI post) args s below n0 s0) 50 [(0, .ref (G.1 + al0)), (1, .int xl1), (2, .int xl2), (3, .int xl3), (4, .int xl4)] [] h) {h : AH} {al0 : Nat} {xl1 : Int32} {xl2 : Int32} {xl3 : Int32} {xl4 : Int32}  (hw : wb_X12_changed_50 K50 h al0 xl1 xl2 xl3 xl4 post) : AW G p l e R s m args below meth c 6 (QM G (pI post) args s below n0 s0) 50 [(0, .ref (G.1 + al0)), (1, .int xl1), (2, .int xl2), (3, .int xl3), (4, .int xl4)] [] h := by
  unfold wb_X12_changed_50 at hw
  refine r_iload C dX12_changed_50 4 rfl ?_
  refine r_iconst (v := 2) C dX12_changed_52 (by decide) ?_
  refine r_icmp_ge C dX12_changed_53 110 (by decide) (fun hc => ?_) (fun hc => ?_)
  · replace hw := hw.1 hc
    refine r_aload_n C dX12_changed_110 0 rfl ?_
    have hob := hw.1
    replace hw := hw.2
    refine r_callV C (As := []) (rest := []) (c_X12_isTown G h al0  _ hw) yl_X12_isTown (gm8 (List.mem_of_getElem? (i := 77) rfl) rfl) (gm8 (List.mem_of_getElem? (i := 79) rfl) rfl) (ci := 11) rfl (by decide) (gsel (List.mem_of_getElem? (i := 73) rfl)) hob (by decide) rfl (Nat.le_of_ble_eq_true rfl) dX12_changed_111 rfl (kI fun hv1 iv2 hw => ?_)
    refine r_if_ne C dX12_changed_114 120 (by decide) (fun hc => ?_) (fun hc => ?_)
    · replace hw := hw.1 hc
      refine r_aload_n C dX12_changed_120 0 rfl ?_
      have hob := hw.1
      replace hw := hw.2
      refine r_callV C (As := []) (rest := []) (c_X12_code G hv1 al0  _ hw) yl_X12_code (gm8 (List.mem_of_getElem? (i := 216) rfl) rfl) (gm8 (List.mem_of_getElem? (i := 218) rfl) rfl) (ci := 11) rfl (by decide) (gsel (List.mem_of_getElem? (i := 93) rfl)) hob (by decide) rfl (Nat.le_of_ble_eq_true rfl) dX12_changed_121 rfl (kI fun hv3 iv4 hw => ?_)
      refine r_istore C dX12_changed_124 [(4, .int iv4), (0, .ref (G.1 + al0)), (1, .int xl1), (2, .int xl2), (3, .int xl3)] (by decide) rfl ?_
      refine r_aload_n C dX12_changed_126 1 rfl ?_
      refine r_iload_n C dX12_changed_127 4 rfl ?_
      refine r_ldcw (v := 1000000000) C (gm8 (List.mem_of_getElem? (i := 220) rfl) rfl) dX12_changed_128 ?_
      refine r_iload C dX12_changed_131 0 rfl ?_
      have hob := hw.1
      replace hw := hw.2
      refine r_callV C (As := [.int xl3, .int 1000000000, .int iv4]) (rest := []) (c_X12_rings G hv3 al0 xl3 1000000000 iv4 _ hw) yl_X12_rings (gm8 (List.mem_of_getElem? (i := 221) rfl) rfl) (gm8 (List.mem_of_getElem? (i := 223) rfl) rfl) (ci := 11) rfl (by decide) (gsel (List.mem_of_getElem? (i := 94) rfl)) hob (by decide) rfl (Nat.le_of_ble_eq_true rfl) dX12_changed_133 rfl (kV fun hv5  hw => ?_)
      refine r_aload_n C dX12_changed_136 1 rfl ?_
      refine r_iload C dX12_changed_137 0 rfl ?_
      have hob := hw.1
      replace hw := hw.2
      refine r_callV C (As := [.int iv4]) (rest := []) (c_X12_keepFound G hv5 al0 iv4 _ hw) yl_X12_keepFound (gm8 (List.mem_of_getElem? (i := 229) rfl) rfl) (gm8 (List.mem_of_getElem? (i := 231) rfl) rfl) (ci := 11) rfl (by decide) (gsel (List.mem_of_getElem? (i := 96) rfl)) hob (by decide) rfl (Nat.le_of_ble_eq_true rfl) dX12_changed_139 rfl (kI fun hv6 iv7 hw => ?_)
      exact r_iret C hr dX12_changed_142 hw
    · replace hw := hw.2 hc
      refine r_bipush (v := (-2)) C dX12_changed_117 (by decide) ?_
      exact r_iret C hr dX12_changed_119 hw
  · replace hw := hw.2 hc
    refine r_aload_n C dX12_changed_56 0 rfl ?_
    have hob := hw.1
    obtain ⟨rv8, hp, hw⟩ := hw.2
    refine r_getP C fl_RX12_50_11 hob hp (fun _ _ _ => rfl) dX12_changed_57 ?_
    refine r_iconst (v := 3) C dX12_changed_60 (by decide) ?_
    refine r_iload_n C dX12_changed_61 1 rfl ?_
    refine r_imul C dX12_changed_62 ?_
    refine r_iload C dX12_changed_63 4 rfl ?_
    refine r_iadd C dX12_changed_65 ?_
    refine r_iaload C hw.1 hw.2.1 dX12_changed_66 ?_
    replace hw := hw.2.2
    refine r_topi fun iv9 eiv9 => ?_
    replace hw := hw iv9 eiv9
    refine r_istore C dX12_changed_67 [(5, .int iv9), (0, .ref (G.1 + al0)), (1, .int xl1), (2, .int xl2), (3, .int xl3), (4, .int xl4)] (by decide) rfl ?_
    refine r_aload_n C dX12_changed_69 1 rfl ?_
    have hob := hw.1
    obtain ⟨rv10, hp, hw⟩ := hw.2
    refine r_getP C fl_RX12_50_11 hob hp (fun _ _ _ => rfl) dX12_changed_70 ?_
    refine r_iconst (v := 3) C dX12_changed_73 (by decide) ?_
    refine r_iload_n C dX12_changed_74 2 rfl ?_
    refine r_imul C dX12_changed_75 ?_
    refine r_iload C dX12_changed_76 5 rfl ?_
    refine r_iadd C dX12_changed_78 ?_
    refine r_aload_n C dX12_changed_79 1 rfl ?_
    have hob := hw.1
    obtain ⟨rv11, hp, hw⟩ := hw.2
    refine r_getP C fl_RX12_50_11 hob hp (fun _ _ _ => rfl) dX12_changed_80 ?_
    refine r_iconst (v := 3) C dX12_changed_83 (by decide) ?_
    refine r_iload_n C dX12_changed_84 3 rfl ?_
    refine r_imul C dX12_changed_85 ?_
    refine r_iload C dX12_changed_86 5 rfl ?_
    refine r_iadd C dX12_changed_88 ?_
    refine r_iaload C hw.1 hw.2.1 dX12_changed_89 ?_
    replace hw := hw.2.2
    refine r_iastore C hw.1 hw.2.1 dX12_changed_90 ?_
    replace hw := hw.2.2
    refine r_toph fun hv12 ehv12 => ?_
    replace hw := hw hv12 ehv12
    refine r_aload_n C dX12_changed_91 1 rfl ?_
    have hob := hw.1
    obtain ⟨rv13, hp, hw⟩ := hw.2
    refine r_getP C fl_RX12_50_11 hob hp (fun _ _ _ => rfl) dX12_changed_92 ?_
    refine r_iconst (v := 3) C dX12_changed_95 (by decide) ?_
    refine r_iload_n C dX12_changed_96 3 rfl ?_
    refine r_imul C dX12_changed_97 ?_
    refine r_iload C dX12_changed_98 5 rfl ?_
    refine r_iadd C dX12_changed_100 ?_
    refine r_iload C dX12_changed_101 0 rfl ?_
    refine r_iastore C hw.1 hw.2.1 dX12_changed_103 ?_
    replace hw := hw.2.2
    refine r_toph fun hv14 ehv14 => ?_
    replace hw := hw hv14 ehv14
    obtain ⟨iv15, eiv15⟩ : ∃ q : Int32, q = xl4 + 1 := ⟨_, rfl⟩
    replace hw := hw iv15 eiv15
    refine r_iinc C dX12_changed_104 5 rfl (by rw [eiv15]; rfl) [(4, .int iv15), (5, .int iv9), (0, .ref (G.1 + al0)), (1, .int xl1), (2, .int xl2), (3, .int xl3)] (by decide) rfl ?_
    refine r_goto C dX12_changed_107 50 (by decide) ?_
    refine r_sub [2, 3, 4, 5, 0] rfl ?_
    exact hK50 _ _ _ _ _ _ hw
def wl_X12_changed_50  (post : AH → Int32 → Prop) : Nat → AH → Nat → Int32 → Int32 → Int32 → Int32 → Prop
  | 0 => fun _ _ _ _ _ _ => False
  | n + 1 => fun h al0 xl1 xl2 xl3 xl4 => wb_X12_changed_50  (wl_X12_changed_50  post n) h al0 xl1 xl2 xl3 xl4 post
theorem tl_X12_changed_50 {G : GG} {p : Program} {l : Launch} {e : Env} {R : Room} {s : State} {m : MethodId} {args : Array Value} {below : List Frame} {meth : Method} {c : Code} {n0 s0 : Nat} {post : AH → Int32 → Prop} (C : Cx G p R s m args meth c 6 cX12_changed RX12 n0 s0 5 127) (hr : meth.sig.returnType = (some .int))   : ∀ (n : Nat) (h : AH) (al0 : Nat) (xl1 : Int32) (xl2 : Int32) (xl3 : Int32) (xl4 : Int32), wl_X12_changed_50  post n h al0 xl1 xl2 xl3 xl4 → AW G p l e R s m args below meth c 6 (QM G (pI post) args s below n0 s0) 50 [(0, .ref (G.1 + al0)), (1, .int xl1), (2, .int xl2), (3, .int xl3), (4, .int xl4)] [] h := by
  intro n
  induction n with
  | zero => intro h al0 xl1 xl2 xl3 xl4 hw; exact hw.elim
  | succ n ih => intro h al0 xl1 xl2 xl3 xl4 hw; exact tb_X12_changed_50 C hr  ih hw
def wp_X12_changed (h : AH) (a0 : Nat) (x1 : Int32) (x2 : Int32) (x3 : Int32) (post : AH → Int32 → Prop) : Prop := (ob h a0 11) ∧ (∀ hv1 : AH, hv1 = hI h a0 0 0 → ((ob hv1 a0 11) ∧ wp_X12_isRaft hv1 a0 x1 (fun hv2 iv3 => (iv3 = 0 → (post hv2 (-2))) ∧ (¬ iv3 = 0 → ((ob hv2 a0 11) ∧ wp_X12_isRaft hv2 a0 x2 (fun hv4 iv5 => (iv5 = 0 → (post hv4 (-2))) ∧ (¬ iv5 = 0 → ((x1 = x2 → (post hv4 (-2))) ∧ (¬ x1 = x2 → (wp_X12_isHour hv4 x3 (fun hv6 iv7 => (iv7 = 0 → (post hv6 (-2))) ∧ (¬ iv7 = 0 → ((ob hv6 a0 11) ∧ wp_X12_isFew hv6 a0  (fun hv8 iv9 => (¬ iv9 = 0 → ((ob hv8 a0 11) ∧ wp_X12_asItIs hv8 a0  (fun hv10  => ∃ n, wl_X12_changed_50  post n hv10 a0 x1 x2 x3 0))) ∧ (iv9 = 0 → (post hv8 (-2)))))))))))))))))
set_option maxRecDepth 100000 in
theorem c_X12_changed (G : GG) (h : AH) (a0 : Nat) (x1 : Int32) (x2 : Int32) (x3 : Int32) (post : AH → Int32 → Prop) (hw : wp_X12_changed h a0 x1 x2 x3 post) : MC G yX12_changed cX12_changed 6 (some .int) 5 127 h [.ref (G.1 + a0), .int x1, .int x2, .int x3] (pI post) := by
  refine MC.of (lv := [(0, .ref (G.1 + a0)), (1, .int x1), (2, .int x2), (3, .int x3)]) (by decide) (Nat.le_of_ble_eq_true rfl) rfl fun p l e R s m args below meth c C hr hnm => ?_
  unfold wp_X12_changed at hw
  refine r_aload_n C dX12_changed_0 0 rfl ?_
  refine r_iconst (v := 0) C dX12_changed_1 (by decide) ?_
  refine r_putI C fp_RX12_1_11 hw.1 rfl dX12_changed_2 ?_
  replace hw := hw.2
  refine r_toph fun hv1 ehv1 => ?_
  replace hw := hw hv1 ehv1
  refine r_aload_n C dX12_changed_5 0 rfl ?_
  refine r_iload_n C dX12_changed_6 1 rfl ?_
  have hob := hw.1
  replace hw := hw.2
  refine r_callV C (As := [.int x1]) (rest := []) (c_X12_isRaft G hv1 a0 x1 _ hw) yl_X12_isRaft (gm8 (List.mem_of_getElem? (i := 49) rfl) rfl) (gm8 (List.mem_of_getElem? (i := 51) rfl) rfl) (ci := 11) rfl (by decide) (gsel (List.mem_of_getElem? (i := 68) rfl)) hob (by decide) rfl (Nat.le_of_ble_eq_true rfl) dX12_changed_7 rfl (kI fun hv2 iv3 hw => ?_)
  refine r_if_eq C dX12_changed_10 40 (by decide) (fun hc => ?_) (fun hc => ?_)
  · replace hw := hw.1 hc
    refine r_bipush (v := (-2)) C dX12_changed_40 (by decide) ?_
    exact r_iret C hr dX12_changed_42 hw
  · replace hw := hw.2 hc
    refine r_aload_n C dX12_changed_13 0 rfl ?_
    refine r_iload_n C dX12_changed_14 2 rfl ?_
    have hob := hw.1
    replace hw := hw.2
    refine r_callV C (As := [.int x2]) (rest := []) (c_X12_isRaft G hv2 a0 x2 _ hw) yl_X12_isRaft (gm8 (List.mem_of_getElem? (i := 49) rfl) rfl) (gm8 (List.mem_of_getElem? (i := 51) rfl) rfl) (ci := 11) rfl (by decide) (gsel (List.mem_of_getElem? (i := 68) rfl)) hob (by decide) rfl (Nat.le_of_ble_eq_true rfl) dX12_changed_15 rfl (kI fun hv4 iv5 hw => ?_)
    refine r_if_eq C dX12_changed_18 40 (by decide) (fun hc => ?_) (fun hc => ?_)
    · replace hw := hw.1 hc
      refine r_bipush (v := (-2)) C dX12_changed_40 (by decide) ?_
      exact r_iret C hr dX12_changed_42 hw
    · replace hw := hw.2 hc
      refine r_iload_n C dX12_changed_21 1 rfl ?_
      refine r_iload_n C dX12_changed_22 2 rfl ?_
      refine r_icmp_eq C dX12_changed_23 40 (by decide) (fun hc => ?_) (fun hc => ?_)
      · replace hw := hw.1 hc
        refine r_bipush (v := (-2)) C dX12_changed_40 (by decide) ?_
        exact r_iret C hr dX12_changed_42 hw
      · replace hw := hw.2 hc
        refine r_iload_n C dX12_changed_26 3 rfl ?_
        refine r_callS C (As := [.int x3]) (rest := []) (c_X12_isHour G hv4 x3 _ hw) yl_X12_isHour (gm8 (List.mem_of_getElem? (i := 38) rfl) rfl) (gm8 (List.mem_of_getElem? (i := 39) rfl) rfl) (by decide) rfl (Nat.le_of_ble_eq_true rfl) dX12_changed_27 rfl (kI fun hv6 iv7 hw => ?_)
        refine r_if_eq C dX12_changed_30 40 (by decide) (fun hc => ?_) (fun hc => ?_)
        · replace hw := hw.1 hc
          refine r_bipush (v := (-2)) C dX12_changed_40 (by decide) ?_
          exact r_iret C hr dX12_changed_42 hw
        · replace hw := hw.2 hc
          refine r_aload_n C dX12_changed_33 0 rfl ?_
          have hob := hw.1
          replace hw := hw.2
          refine r_callV C (As := []) (rest := []) (c_X12_isFew G hv6 a0  _ hw) yl_X12_isFew (gm8 (List.mem_of_getElem? (i := 212) rfl) rfl) (gm8 (List.mem_of_getElem? (i := 214) rfl) rfl) (ci := 11) rfl (by decide) (gsel (List.mem_of_getElem? (i := 92) rfl)) hob (by decide) rfl (Nat.le_of_ble_eq_true rfl) dX12_changed_34 rfl (kI fun hv8 iv9 hw => ?_)
          refine r_if_ne C dX12_changed_37 43 (by decide) (fun hc => ?_) (fun hc => ?_)
          · replace hw := hw.1 hc
            refine r_aload_n C dX12_changed_43 0 rfl ?_
            have hob := hw.1
            replace hw := hw.2
            refine r_callV C (As := []) (rest := []) (c_X12_asItIs G hv8 a0  _ hw) yl_X12_asItIs (gm8 (List.mem_of_getElem? (i := 57) rfl) rfl) (gm8 (List.mem_of_getElem? (i := 59) rfl) rfl) (ci := 11) rfl (by decide) (gsel (List.mem_of_getElem? (i := 70) rfl)) hob (by decide) rfl (Nat.le_of_ble_eq_true rfl) dX12_changed_44 rfl (kV fun hv10  hw => ?_)
            refine r_iconst (v := 0) C dX12_changed_47 (by decide) ?_
            refine r_istore C dX12_changed_48 [(4, .int 0), (0, .ref (G.1 + a0)), (1, .int x1), (2, .int x2), (3, .int x3)] (by decide) rfl ?_
            refine r_sub [1, 2, 3, 4, 0] rfl ?_
            obtain ⟨n, hw⟩ := hw
            exact tl_X12_changed_50 C hr  n _ _ _ _ _ _ hw
          · replace hw := hw.2 hc
            refine r_bipush (v := (-2)) C dX12_changed_40 (by decide) ?_
            exact r_iret C hr dX12_changed_42 hw
theorem dX12_best_0 : decode cX12_best 0 = .ok (.aload_n 0, 1) := by decide +kernel
theorem dX12_best_1 : decode cX12_best 1 = .ok (.iconst 0, 1) := by decide +kernel
theorem dX12_best_2 : decode cX12_best 2 = .ok (.putfield 1, 3) := by decide +kernel
theorem dX12_best_5 : decode cX12_best 5 = .ok (.iload_n 1, 1) := by decide +kernel
theorem dX12_best_6 : decode cX12_best 6 = .ok (.iconst 0, 1) := by decide +kernel
theorem dX12_best_7 : decode cX12_best 7 = .ok (.bipush 60, 2) := by decide +kernel
theorem dX12_best_9 : decode cX12_best 9 = .ok (.invokestatic 196, 3) := by decide +kernel
theorem dX12_best_12 : decode cX12_best 12 = .ok (.ifCond .eq 17, 3) := by decide +kernel
theorem dX12_best_15 : decode cX12_best 15 = .ok (.iload_n 2, 1) := by decide +kernel
theorem dX12_best_16 : decode cX12_best 16 = .ok (.invokestatic 290, 3) := by decide +kernel
theorem dX12_best_19 : decode cX12_best 19 = .ok (.ifCond .eq 10, 3) := by decide +kernel
theorem dX12_best_22 : decode cX12_best 22 = .ok (.aload_n 0, 1) := by decide +kernel
theorem dX12_best_23 : decode cX12_best 23 = .ok (.invokevirtual 411, 3) := by decide +kernel
theorem dX12_best_26 : decode cX12_best 26 = .ok (.ifCond .ne 6, 3) := by decide +kernel
theorem dX12_best_29 : decode cX12_best 29 = .ok (.bipush (-2), 2) := by decide +kernel
theorem dX12_best_31 : decode cX12_best 31 = .ok (.ireturn, 1) := by decide +kernel
theorem dX12_best_32 : decode cX12_best 32 = .ok (.aload_n 0, 1) := by decide +kernel
theorem dX12_best_33 : decode cX12_best 33 = .ok (.iload_n 2, 1) := by decide +kernel
theorem dX12_best_34 : decode cX12_best 34 = .ok (.iload_n 1, 1) := by decide +kernel
theorem dX12_best_35 : decode cX12_best 35 = .ok (.iconst (-1), 1) := by decide +kernel
theorem dX12_best_36 : decode cX12_best 36 = .ok (.invokevirtual 415, 3) := by decide +kernel
theorem dX12_best_39 : decode cX12_best 39 = .ok (.aload_n 0, 1) := by decide +kernel
theorem dX12_best_40 : decode cX12_best 40 = .ok (.getfield 78, 3) := by decide +kernel
theorem dX12_best_43 : decode cX12_best 43 = .ok (.iconst 0, 1) := by decide +kernel
theorem dX12_best_44 : decode cX12_best 44 = .ok (.iaload, 1) := by decide +kernel
theorem dX12_best_45 : decode cX12_best 45 = .ok (.istore_n 3, 1) := by decide +kernel
theorem dX12_best_46 : decode cX12_best 46 = .ok (.aload_n 0, 1) := by decide +kernel
theorem dX12_best_47 : decode cX12_best 47 = .ok (.iload_n 3, 1) := by decide +kernel
theorem dX12_best_48 : decode cX12_best 48 = .ok (.invokevirtual 405, 3) := by decide +kernel
theorem dX12_best_51 : decode cX12_best 51 = .ok (.aload_n 0, 1) := by decide +kernel
theorem dX12_best_52 : decode cX12_best 52 = .ok (.invokevirtual 362, 3) := by decide +kernel
theorem dX12_best_55 : decode cX12_best 55 = .ok (.istore 4, 2) := by decide +kernel
theorem dX12_best_57 : decode cX12_best 57 = .ok (.iconst 1, 1) := by decide +kernel
theorem dX12_best_58 : decode cX12_best 58 = .ok (.istore 5, 2) := by decide +kernel
theorem dX12_best_60 : decode cX12_best 60 = .ok (.iload 5, 2) := by decide +kernel
theorem dX12_best_62 : decode cX12_best 62 = .ok (.aload_n 0, 1) := by decide +kernel
theorem dX12_best_63 : decode cX12_best 63 = .ok (.getfield 402, 3) := by decide +kernel
theorem dX12_best_66 : decode cX12_best 66 = .ok (.if_icmp .ge 46, 3) := by decide +kernel
theorem dX12_best_69 : decode cX12_best 69 = .ok (.aload_n 0, 1) := by decide +kernel
theorem dX12_best_70 : decode cX12_best 70 = .ok (.aload_n 0, 1) := by decide +kernel
theorem dX12_best_71 : decode cX12_best 71 = .ok (.getfield 78, 3) := by decide +kernel
theorem dX12_best_74 : decode cX12_best 74 = .ok (.iload 5, 2) := by decide +kernel
theorem dX12_best_76 : decode cX12_best 76 = .ok (.iaload, 1) := by decide +kernel
theorem dX12_best_77 : decode cX12_best 77 = .ok (.invokevirtual 405, 3) := by decide +kernel
theorem dX12_best_80 : decode cX12_best 80 = .ok (.aload_n 0, 1) := by decide +kernel
theorem dX12_best_81 : decode cX12_best 81 = .ok (.invokevirtual 362, 3) := by decide +kernel
theorem dX12_best_84 : decode cX12_best 84 = .ok (.iload 4, 2) := by decide +kernel
theorem dX12_best_86 : decode cX12_best 86 = .ok (.if_icmp .gt 6, 3) := by decide +kernel
theorem dX12_best_89 : decode cX12_best 89 = .ok (.goto 17, 3) := by decide +kernel
theorem dX12_best_92 : decode cX12_best 92 = .ok (.aload_n 0, 1) := by decide +kernel
theorem dX12_best_93 : decode cX12_best 93 = .ok (.invokevirtual 362, 3) := by decide +kernel
theorem dX12_best_96 : decode cX12_best 96 = .ok (.istore 4, 2) := by decide +kernel
theorem dX12_best_98 : decode cX12_best 98 = .ok (.aload_n 0, 1) := by decide +kernel
theorem dX12_best_99 : decode cX12_best 99 = .ok (.getfield 78, 3) := by decide +kernel
theorem dX12_best_102 : decode cX12_best 102 = .ok (.iload 5, 2) := by decide +kernel
theorem dX12_best_104 : decode cX12_best 104 = .ok (.iaload, 1) := by decide +kernel
theorem dX12_best_105 : decode cX12_best 105 = .ok (.istore_n 3, 1) := by decide +kernel
theorem dX12_best_106 : decode cX12_best 106 = .ok (.iinc 5 1, 3) := by decide +kernel
theorem dX12_best_109 : decode cX12_best 109 = .ok (.goto (-49), 3) := by decide +kernel
theorem dX12_best_112 : decode cX12_best 112 = .ok (.aload_n 0, 1) := by decide +kernel
theorem dX12_best_113 : decode cX12_best 113 = .ok (.iload_n 3, 1) := by decide +kernel
theorem dX12_best_114 : decode cX12_best 114 = .ok (.invokevirtual 418, 3) := by decide +kernel
theorem dX12_best_117 : decode cX12_best 117 = .ok (.pop, 1) := by decide +kernel
theorem dX12_best_118 : decode cX12_best 118 = .ok (.iload 4, 2) := by decide +kernel
theorem dX12_best_120 : decode cX12_best 120 = .ok (.ireturn, 1) := by decide +kernel
def wb_X12_best_106 (K60 : AH → Nat → Int32 → Int32 → Int32 → Prop) (h : AH) (al0 : Nat) (xl3 : Int32) (xl4 : Int32) (xl5 : Int32)  (post : AH → Int32 → Prop) : Prop := ∀ iv1 : Int32, iv1 = xl5 + 1 → (K60 h al0 xl3 xl4 iv1)
set_option maxRecDepth 100000 in
theorem tb_X12_best_106 {G : GG} {p : Program} {l : Launch} {e : Env} {R : Room} {s : State} {m : MethodId} {args : Array Value} {below : List Frame} {meth : Method} {c : Code} {n0 s0 : Nat} {post : AH → Int32 → Prop} (C : Cx G p R s m args meth c 6 cX12_best RX12 n0 s0 5 127) (hr : meth.sig.returnType = (some .int)) {K60 : AH → Nat → Int32 → Int32 → Int32 → Prop} (hK60 : ∀ (h : AH) (al0 : Nat) (xl3 : Int32) (xl4 : Int32) (xl5 : Int32), K60 h al0 xl3 xl4 xl5 → AW G p l e R s m args below meth c 6 (QM G (pI post) args s below n0 s0) 60 [(0, .ref (G.1 + al0)), (3, .int xl3), (4, .int xl4), (5, .int xl5)] [] h) {h : AH} {al0 : Nat} {xl3 : Int32} {xl4 : Int32} {xl5 : Int32}  (hw : wb_X12_best_106 K60 h al0 xl3 xl4 xl5 post) : AW G p l e R s m args below meth c 6 (QM G (pI post) args s below n0 s0) 106 [(0, .ref (G.1 + al0)), (3, .int xl3), (4, .int xl4), (5, .int xl5)] [] h := by
  unfold wb_X12_best_106 at hw
  obtain ⟨iv1, eiv1⟩ : ∃ q : Int32, q = xl5 + 1 := ⟨_, rfl⟩
  replace hw := hw iv1 eiv1
  refine r_iinc C dX12_best_106 3 rfl (by rw [eiv1]; rfl) [(5, .int iv1), (0, .ref (G.1 + al0)), (3, .int xl3), (4, .int xl4)] (by decide) rfl ?_
  refine r_goto C dX12_best_109 60 (by decide) ?_
  refine r_sub [1, 2, 3, 0] rfl ?_
  exact hK60 _ _ _ _ _ hw
def wb_X12_best_60 (K60 : AH → Nat → Int32 → Int32 → Int32 → Prop) (h : AH) (al0 : Nat) (xl3 : Int32) (xl4 : Int32) (xl5 : Int32)  (post : AH → Int32 → Prop) : Prop := (ob h al0 11) ∧ (((aI h al0 41) ≤ xl5 → ((ob h al0 11) ∧ wp_X12_keepFound h al0 xl3 (fun hv1 iv2 => post hv1 xl4))) ∧ (¬ (aI h al0 41) ≤ xl5 → ((ob h al0 11) ∧ (∃ rv3, aP h al0 38 = some rv3 ∧ ((ob h rv3 13) ∧ ((vp_in xl5 (aL h rv3)) ∧ ((ob h al0 11) ∧ wp_X12_unfold h al0 (aI h rv3 xl5.toNatClampNeg) (fun hv4  => (ob hv4 al0 11) ∧ wp_X12_met hv4 al0  (fun hv5 iv6 => (xl4 < iv6 → ((ob hv5 al0 11) ∧ wp_X12_met hv5 al0  (fun hv7 iv8 => (ob hv7 al0 11) ∧ (∃ rv9, aP hv7 al0 38 = some rv9 ∧ ((ob hv7 rv9 13) ∧ ((vp_in xl5 (aL hv7 rv9)) ∧ (∀ iv10 : Int32, iv10 = aI hv7 rv9 xl5.toNatClampNeg → (wb_X12_best_106 K60 hv7 al0 iv10 iv8 xl5 post)))))))) ∧ (¬ xl4 < iv6 → (wb_X12_best_106 K60 hv5 al0 xl3 xl4 xl5 post)))))))))))
set_option maxRecDepth 100000 in
theorem tb_X12_best_60 {G : GG} {p : Program} {l : Launch} {e : Env} {R : Room} {s : State} {m : MethodId} {args : Array Value} {below : List Frame} {meth : Method} {c : Code} {n0 s0 : Nat} {post : AH → Int32 → Prop} (C : Cx G p R s m args meth c 6 cX12_best RX12 n0 s0 5 127) (hr : meth.sig.returnType = (some .int)) {K60 : AH → Nat → Int32 → Int32 → Int32 → Prop} (hK60 : ∀ (h : AH) (al0 : Nat) (xl3 : Int32) (xl4 : Int32) (xl5 : Int32), K60 h al0 xl3 xl4 xl5 → AW G p l e R s m args below meth c 6 (QM G (pI post) args s below n0 s0) 60 [(0, .ref (G.1 + al0)), (3, .int xl3), (4, .int xl4), (5, .int xl5)] [] h) {h : AH} {al0 : Nat} {xl3 : Int32} {xl4 : Int32} {xl5 : Int32}  (hw : wb_X12_best_60 K60 h al0 xl3 xl4 xl5 post) : AW G p l e R s m args below meth c 6 (QM G (pI post) args s below n0 s0) 60 [(0, .ref (G.1 + al0)), (3, .int xl3), (4, .int xl4), (5, .int xl5)] [] h := by
  unfold wb_X12_best_60 at hw
  refine r_iload C dX12_best_60 3 rfl ?_
  refine r_aload_n C dX12_best_62 0 rfl ?_
  refine r_getI C fl_RX12_402_11 hw.1 (fun _ _ _ => rfl) dX12_best_63 ?_
  replace hw := hw.2
  refine r_icmp_ge C dX12_best_66 112 (by decide) (fun hc => ?_) (fun hc => ?_)
  · replace hw := hw.1 hc
    refine r_aload_n C dX12_best_112 0 rfl ?_
    refine r_iload_n C dX12_best_113 1 rfl ?_
    have hob := hw.1
    replace hw := hw.2
    refine r_callV C (As := [.int xl3]) (rest := []) (c_X12_keepFound G h al0 xl3 _ hw) yl_X12_keepFound (gm8 (List.mem_of_getElem? (i := 229) rfl) rfl) (gm8 (List.mem_of_getElem? (i := 231) rfl) rfl) (ci := 11) rfl (by decide) (gsel (List.mem_of_getElem? (i := 96) rfl)) hob (by decide) rfl (Nat.le_of_ble_eq_true rfl) dX12_best_114 rfl (kI fun hv1 iv2 hw => ?_)
    refine r_pop C dX12_best_117 rfl ?_
    refine r_iload C dX12_best_118 2 rfl ?_
    exact r_iret C hr dX12_best_120 hw
  · replace hw := hw.2 hc
    refine r_aload_n C dX12_best_69 0 rfl ?_
    refine r_aload_n C dX12_best_70 0 rfl ?_
    have hob := hw.1
    obtain ⟨rv3, hp, hw⟩ := hw.2
    refine r_getP C fl_RX12_78_11 hob hp (fun _ _ _ => rfl) dX12_best_71 ?_
    refine r_iload C dX12_best_74 3 rfl ?_
    refine r_iaload C hw.1 hw.2.1 dX12_best_76 ?_
    replace hw := hw.2.2
    have hob := hw.1
    replace hw := hw.2
    refine r_callV C (As := [.int (aI h rv3 xl5.toNatClampNeg)]) (rest := []) (c_X12_unfold G h al0 (aI h rv3 xl5.toNatClampNeg) _ hw) yl_X12_unfold (gm8 (List.mem_of_getElem? (i := 225) rfl) rfl) (gm8 (List.mem_of_getElem? (i := 227) rfl) rfl) (ci := 11) rfl (by decide) (gsel (List.mem_of_getElem? (i := 95) rfl)) hob (by decide) rfl (Nat.le_of_ble_eq_true rfl) dX12_best_77 rfl (kV fun hv4  hw => ?_)
    refine r_aload_n C dX12_best_80 0 rfl ?_
    have hob := hw.1
    replace hw := hw.2
    refine r_callV C (As := []) (rest := []) (c_X12_met G hv4 al0  _ hw) yl_X12_met (gm8 (List.mem_of_getElem? (i := 141) rfl) rfl) (gm8 (List.mem_of_getElem? (i := 143) rfl) rfl) (ci := 11) rfl (by decide) (gsel (List.mem_of_getElem? (i := 83) rfl)) hob (by decide) rfl (Nat.le_of_ble_eq_true rfl) dX12_best_81 rfl (kI fun hv5 iv6 hw => ?_)
    refine r_iload C dX12_best_84 2 rfl ?_
    refine r_icmp_gt C dX12_best_86 92 (by decide) (fun hc => ?_) (fun hc => ?_)
    · replace hw := hw.1 hc
      refine r_aload_n C dX12_best_92 0 rfl ?_
      have hob := hw.1
      replace hw := hw.2
      refine r_callV C (As := []) (rest := []) (c_X12_met G hv5 al0  _ hw) yl_X12_met (gm8 (List.mem_of_getElem? (i := 141) rfl) rfl) (gm8 (List.mem_of_getElem? (i := 143) rfl) rfl) (ci := 11) rfl (by decide) (gsel (List.mem_of_getElem? (i := 83) rfl)) hob (by decide) rfl (Nat.le_of_ble_eq_true rfl) dX12_best_93 rfl (kI fun hv7 iv8 hw => ?_)
      refine r_istore C dX12_best_96 [(4, .int iv8), (0, .ref (G.1 + al0)), (3, .int xl3), (5, .int xl5)] (by decide) rfl ?_
      refine r_aload_n C dX12_best_98 1 rfl ?_
      have hob := hw.1
      obtain ⟨rv9, hp, hw⟩ := hw.2
      refine r_getP C fl_RX12_78_11 hob hp (fun _ _ _ => rfl) dX12_best_99 ?_
      refine r_iload C dX12_best_102 3 rfl ?_
      refine r_iaload C hw.1 hw.2.1 dX12_best_104 ?_
      replace hw := hw.2.2
      refine r_topi fun iv10 eiv10 => ?_
      replace hw := hw iv10 eiv10
      refine r_istore_n C dX12_best_105 [(3, .int iv10), (4, .int iv8), (0, .ref (G.1 + al0)), (5, .int xl5)] (by decide) rfl ?_
      refine r_sub [2, 0, 1, 3] rfl ?_
      exact tb_X12_best_106 C hr hK60 hw
    · replace hw := hw.2 hc
      refine r_goto C dX12_best_89 106 (by decide) ?_
      refine r_sub [0, 1, 2, 3] rfl ?_
      exact tb_X12_best_106 C hr hK60 hw
def wl_X12_best_60  (post : AH → Int32 → Prop) : Nat → AH → Nat → Int32 → Int32 → Int32 → Prop
  | 0 => fun _ _ _ _ _ => False
  | n + 1 => fun h al0 xl3 xl4 xl5 => wb_X12_best_60  (wl_X12_best_60  post n) h al0 xl3 xl4 xl5 post
theorem tl_X12_best_60 {G : GG} {p : Program} {l : Launch} {e : Env} {R : Room} {s : State} {m : MethodId} {args : Array Value} {below : List Frame} {meth : Method} {c : Code} {n0 s0 : Nat} {post : AH → Int32 → Prop} (C : Cx G p R s m args meth c 6 cX12_best RX12 n0 s0 5 127) (hr : meth.sig.returnType = (some .int))   : ∀ (n : Nat) (h : AH) (al0 : Nat) (xl3 : Int32) (xl4 : Int32) (xl5 : Int32), wl_X12_best_60  post n h al0 xl3 xl4 xl5 → AW G p l e R s m args below meth c 6 (QM G (pI post) args s below n0 s0) 60 [(0, .ref (G.1 + al0)), (3, .int xl3), (4, .int xl4), (5, .int xl5)] [] h := by
  intro n
  induction n with
  | zero => intro h al0 xl3 xl4 xl5 hw; exact hw.elim
  | succ n ih => intro h al0 xl3 xl4 xl5 hw; exact tb_X12_best_60 C hr  ih hw
def wp_X12_best (h : AH) (a0 : Nat) (x1 : Int32) (x2 : Int32) (post : AH → Int32 → Prop) : Prop := (ob h a0 11) ∧ (∀ hv1 : AH, hv1 = hI h a0 0 0 → (wp_X12_isIn hv1 x1 0 60 (fun hv2 iv3 => (iv3 = 0 → (post hv2 (-2))) ∧ (¬ iv3 = 0 → (wp_X12_isHour hv2 x2 (fun hv4 iv5 => (iv5 = 0 → (post hv4 (-2))) ∧ (¬ iv5 = 0 → ((ob hv4 a0 11) ∧ wp_X12_isFew hv4 a0  (fun hv6 iv7 => (¬ iv7 = 0 → ((ob hv6 a0 11) ∧ wp_X12_rings hv6 a0 x2 x1 (-1) (fun hv8  => (ob hv8 a0 11) ∧ (∃ rv9, aP hv8 a0 38 = some rv9 ∧ ((ob hv8 rv9 13) ∧ ((vp_in 0 (aL hv8 rv9)) ∧ (∀ iv10 : Int32, iv10 = aI hv8 rv9 (0 : Int32).toNatClampNeg → ((ob hv8 a0 11) ∧ wp_X12_unfold hv8 a0 iv10 (fun hv11  => (ob hv11 a0 11) ∧ wp_X12_met hv11 a0  (fun hv12 iv13 => ∃ n, wl_X12_best_60  post n hv12 a0 iv10 iv13 1)))))))))) ∧ (iv7 = 0 → (post hv6 (-2))))))))))))
set_option maxRecDepth 100000 in
theorem c_X12_best (G : GG) (h : AH) (a0 : Nat) (x1 : Int32) (x2 : Int32) (post : AH → Int32 → Prop) (hw : wp_X12_best h a0 x1 x2 post) : MC G yX12_best cX12_best 6 (some .int) 5 127 h [.ref (G.1 + a0), .int x1, .int x2] (pI post) := by
  refine MC.of (lv := [(0, .ref (G.1 + a0)), (1, .int x1), (2, .int x2)]) (by decide) (Nat.le_of_ble_eq_true rfl) rfl fun p l e R s m args below meth c C hr hnm => ?_
  unfold wp_X12_best at hw
  refine r_aload_n C dX12_best_0 0 rfl ?_
  refine r_iconst (v := 0) C dX12_best_1 (by decide) ?_
  refine r_putI C fp_RX12_1_11 hw.1 rfl dX12_best_2 ?_
  replace hw := hw.2
  refine r_toph fun hv1 ehv1 => ?_
  replace hw := hw hv1 ehv1
  refine r_iload_n C dX12_best_5 1 rfl ?_
  refine r_iconst (v := 0) C dX12_best_6 (by decide) ?_
  refine r_bipush (v := 60) C dX12_best_7 (by decide) ?_
  refine r_callS C (As := [.int x1, .int 0, .int 60]) (rest := []) (c_X12_isIn G hv1 x1 0 60 _ hw) yl_X12_isIn (gm7 (List.mem_of_getElem? (i := 189) rfl) rfl) (gm7 (List.mem_of_getElem? (i := 190) rfl) rfl) (by decide) rfl (Nat.le_of_ble_eq_true rfl) dX12_best_9 rfl (kI fun hv2 iv3 hw => ?_)
  refine r_if_eq C dX12_best_12 29 (by decide) (fun hc => ?_) (fun hc => ?_)
  · replace hw := hw.1 hc
    refine r_bipush (v := (-2)) C dX12_best_29 (by decide) ?_
    exact r_iret C hr dX12_best_31 hw
  · replace hw := hw.2 hc
    refine r_iload_n C dX12_best_15 2 rfl ?_
    refine r_callS C (As := [.int x2]) (rest := []) (c_X12_isHour G hv2 x2 _ hw) yl_X12_isHour (gm8 (List.mem_of_getElem? (i := 38) rfl) rfl) (gm8 (List.mem_of_getElem? (i := 39) rfl) rfl) (by decide) rfl (Nat.le_of_ble_eq_true rfl) dX12_best_16 rfl (kI fun hv4 iv5 hw => ?_)
    refine r_if_eq C dX12_best_19 29 (by decide) (fun hc => ?_) (fun hc => ?_)
    · replace hw := hw.1 hc
      refine r_bipush (v := (-2)) C dX12_best_29 (by decide) ?_
      exact r_iret C hr dX12_best_31 hw
    · replace hw := hw.2 hc
      refine r_aload_n C dX12_best_22 0 rfl ?_
      have hob := hw.1
      replace hw := hw.2
      refine r_callV C (As := []) (rest := []) (c_X12_isFew G hv4 a0  _ hw) yl_X12_isFew (gm8 (List.mem_of_getElem? (i := 212) rfl) rfl) (gm8 (List.mem_of_getElem? (i := 214) rfl) rfl) (ci := 11) rfl (by decide) (gsel (List.mem_of_getElem? (i := 92) rfl)) hob (by decide) rfl (Nat.le_of_ble_eq_true rfl) dX12_best_23 rfl (kI fun hv6 iv7 hw => ?_)
      refine r_if_ne C dX12_best_26 32 (by decide) (fun hc => ?_) (fun hc => ?_)
      · replace hw := hw.1 hc
        refine r_aload_n C dX12_best_32 0 rfl ?_
        refine r_iload_n C dX12_best_33 2 rfl ?_
        refine r_iload_n C dX12_best_34 1 rfl ?_
        refine r_iconst (v := (-1)) C dX12_best_35 (by decide) ?_
        have hob := hw.1
        replace hw := hw.2
        refine r_callV C (As := [.int x2, .int x1, .int (-1)]) (rest := []) (c_X12_rings G hv6 a0 x2 x1 (-1) _ hw) yl_X12_rings (gm8 (List.mem_of_getElem? (i := 221) rfl) rfl) (gm8 (List.mem_of_getElem? (i := 223) rfl) rfl) (ci := 11) rfl (by decide) (gsel (List.mem_of_getElem? (i := 94) rfl)) hob (by decide) rfl (Nat.le_of_ble_eq_true rfl) dX12_best_36 rfl (kV fun hv8  hw => ?_)
        refine r_aload_n C dX12_best_39 0 rfl ?_
        have hob := hw.1
        obtain ⟨rv9, hp, hw⟩ := hw.2
        refine r_getP C fl_RX12_78_11 hob hp (fun _ _ _ => rfl) dX12_best_40 ?_
        refine r_iconst (v := 0) C dX12_best_43 (by decide) ?_
        refine r_iaload C hw.1 hw.2.1 dX12_best_44 ?_
        replace hw := hw.2.2
        refine r_topi fun iv10 eiv10 => ?_
        replace hw := hw iv10 eiv10
        refine r_istore_n C dX12_best_45 [(3, .int iv10), (0, .ref (G.1 + a0)), (1, .int x1), (2, .int x2)] (by decide) rfl ?_
        refine r_aload_n C dX12_best_46 1 rfl ?_
        refine r_iload_n C dX12_best_47 0 rfl ?_
        have hob := hw.1
        replace hw := hw.2
        refine r_callV C (As := [.int iv10]) (rest := []) (c_X12_unfold G hv8 a0 iv10 _ hw) yl_X12_unfold (gm8 (List.mem_of_getElem? (i := 225) rfl) rfl) (gm8 (List.mem_of_getElem? (i := 227) rfl) rfl) (ci := 11) rfl (by decide) (gsel (List.mem_of_getElem? (i := 95) rfl)) hob (by decide) rfl (Nat.le_of_ble_eq_true rfl) dX12_best_48 rfl (kV fun hv11  hw => ?_)
        refine r_aload_n C dX12_best_51 1 rfl ?_
        have hob := hw.1
        replace hw := hw.2
        refine r_callV C (As := []) (rest := []) (c_X12_met G hv11 a0  _ hw) yl_X12_met (gm8 (List.mem_of_getElem? (i := 141) rfl) rfl) (gm8 (List.mem_of_getElem? (i := 143) rfl) rfl) (ci := 11) rfl (by decide) (gsel (List.mem_of_getElem? (i := 83) rfl)) hob (by decide) rfl (Nat.le_of_ble_eq_true rfl) dX12_best_52 rfl (kI fun hv12 iv13 hw => ?_)
        refine r_istore C dX12_best_55 [(4, .int iv13), (3, .int iv10), (0, .ref (G.1 + a0)), (1, .int x1), (2, .int x2)] (by decide) rfl ?_
        refine r_iconst (v := 1) C dX12_best_57 (by decide) ?_
        refine r_istore C dX12_best_58 [(5, .int 1), (4, .int iv13), (3, .int iv10), (0, .ref (G.1 + a0)), (1, .int x1), (2, .int x2)] (by decide) rfl ?_
        refine r_sub [3, 2, 1, 0] rfl ?_
        obtain ⟨n, hw⟩ := hw
        exact tl_X12_best_60 C hr  n _ _ _ _ _ hw
      · replace hw := hw.2 hc
        refine r_bipush (v := (-2)) C dX12_best_29 (by decide) ?_
        exact r_iret C hr dX12_best_31 hw
theorem dX12_place_0 : decode cX12_place 0 = .ok (.iconst 2, 1) := by decide +kernel
theorem dX12_place_1 : decode cX12_place 1 = .ok (.bipush 8, 2) := by decide +kernel
theorem dX12_place_3 : decode cX12_place 3 = .ok (.aload_n 0, 1) := by decide +kernel
theorem dX12_place_4 : decode cX12_place 4 = .ok (.getfield 50, 3) := by decide +kernel
theorem dX12_place_7 : decode cX12_place 7 = .ok (.iconst 3, 1) := by decide +kernel
theorem dX12_place_8 : decode cX12_place 8 = .ok (.iload_n 1, 1) := by decide +kernel
theorem dX12_place_9 : decode cX12_place 9 = .ok (.imul, 1) := by decide +kernel
theorem dX12_place_10 : decode cX12_place 10 = .ok (.iconst 1, 1) := by decide +kernel
theorem dX12_place_11 : decode cX12_place 11 = .ok (.iadd, 1) := by decide +kernel
theorem dX12_place_12 : decode cX12_place 12 = .ok (.iaload, 1) := by decide +kernel
theorem dX12_place_13 : decode cX12_place 13 = .ok (.imul, 1) := by decide +kernel
theorem dX12_place_14 : decode cX12_place 14 = .ok (.aload_n 0, 1) := by decide +kernel
theorem dX12_place_15 : decode cX12_place 15 = .ok (.getfield 50, 3) := by decide +kernel
theorem dX12_place_18 : decode cX12_place 18 = .ok (.iconst 3, 1) := by decide +kernel
theorem dX12_place_19 : decode cX12_place 19 = .ok (.iload_n 1, 1) := by decide +kernel
theorem dX12_place_20 : decode cX12_place 20 = .ok (.imul, 1) := by decide +kernel
theorem dX12_place_21 : decode cX12_place 21 = .ok (.iaload, 1) := by decide +kernel
theorem dX12_place_22 : decode cX12_place 22 = .ok (.iadd, 1) := by decide +kernel
theorem dX12_place_23 : decode cX12_place 23 = .ok (.imul, 1) := by decide +kernel
theorem dX12_place_24 : decode cX12_place 24 = .ok (.aload_n 0, 1) := by decide +kernel
theorem dX12_place_25 : decode cX12_place 25 = .ok (.getfield 50, 3) := by decide +kernel
theorem dX12_place_28 : decode cX12_place 28 = .ok (.iconst 3, 1) := by decide +kernel
theorem dX12_place_29 : decode cX12_place 29 = .ok (.iload_n 1, 1) := by decide +kernel
theorem dX12_place_30 : decode cX12_place 30 = .ok (.imul, 1) := by decide +kernel
theorem dX12_place_31 : decode cX12_place 31 = .ok (.iconst 2, 1) := by decide +kernel
theorem dX12_place_32 : decode cX12_place 32 = .ok (.iadd, 1) := by decide +kernel
theorem dX12_place_33 : decode cX12_place 33 = .ok (.iaload, 1) := by decide +kernel
theorem dX12_place_34 : decode cX12_place 34 = .ok (.iadd, 1) := by decide +kernel
theorem dX12_place_35 : decode cX12_place 35 = .ok (.ireturn, 1) := by decide +kernel
def wp_X12_place (h : AH) (a0 : Nat) (x1 : Int32) (post : AH → Int32 → Prop) : Prop := (ob h a0 11) ∧ (∃ rv1, aP h a0 24 = some rv1 ∧ ((ob h rv1 13) ∧ ((vp_in (((3 : Int32) * x1) + (1 : Int32)) (aL h rv1)) ∧ ((ob h a0 11) ∧ (∃ rv2, aP h a0 24 = some rv2 ∧ ((ob h rv2 13) ∧ ((vp_in ((3 : Int32) * x1) (aL h rv2)) ∧ ((ob h a0 11) ∧ (∃ rv3, aP h a0 24 = some rv3 ∧ ((ob h rv3 13) ∧ ((vp_in (((3 : Int32) * x1) + (2 : Int32)) (aL h rv3)) ∧ (post h (((2 : Int32) * (((8 : Int32) * (aI h rv1 (((3 : Int32) * x1) + (1 : Int32)).toNatClampNeg)) + (aI h rv2 ((3 : Int32) * x1).toNatClampNeg))) + (aI h rv3 (((3 : Int32) * x1) + (2 : Int32)).toNatClampNeg))))))))))))))
set_option maxRecDepth 100000 in
theorem c_X12_place (G : GG) (h : AH) (a0 : Nat) (x1 : Int32) (post : AH → Int32 → Prop) (hw : wp_X12_place h a0 x1 post) : MC G yX12_place cX12_place 2 (some .int) 0 0 h [.ref (G.1 + a0), .int x1] (pI post) := by
  refine MC.of (lv := [(0, .ref (G.1 + a0)), (1, .int x1)]) (by decide) (Nat.le_of_ble_eq_true rfl) rfl fun p l e R s m args below meth c C hr hnm => ?_
  unfold wp_X12_place at hw
  refine r_iconst (v := 2) C dX12_place_0 (by decide) ?_
  refine r_bipush (v := 8) C dX12_place_1 (by decide) ?_
  refine r_aload_n C dX12_place_3 0 rfl ?_
  have hob := hw.1
  obtain ⟨rv1, hp, hw⟩ := hw.2
  refine r_getP C fl_RX12_50_11 hob hp (fun _ _ _ => rfl) dX12_place_4 ?_
  refine r_iconst (v := 3) C dX12_place_7 (by decide) ?_
  refine r_iload_n C dX12_place_8 1 rfl ?_
  refine r_imul C dX12_place_9 ?_
  refine r_iconst (v := 1) C dX12_place_10 (by decide) ?_
  refine r_iadd C dX12_place_11 ?_
  refine r_iaload C hw.1 hw.2.1 dX12_place_12 ?_
  replace hw := hw.2.2
  refine r_imul C dX12_place_13 ?_
  refine r_aload_n C dX12_place_14 0 rfl ?_
  have hob := hw.1
  obtain ⟨rv2, hp, hw⟩ := hw.2
  refine r_getP C fl_RX12_50_11 hob hp (fun _ _ _ => rfl) dX12_place_15 ?_
  refine r_iconst (v := 3) C dX12_place_18 (by decide) ?_
  refine r_iload_n C dX12_place_19 1 rfl ?_
  refine r_imul C dX12_place_20 ?_
  refine r_iaload C hw.1 hw.2.1 dX12_place_21 ?_
  replace hw := hw.2.2
  refine r_iadd C dX12_place_22 ?_
  refine r_imul C dX12_place_23 ?_
  refine r_aload_n C dX12_place_24 0 rfl ?_
  have hob := hw.1
  obtain ⟨rv3, hp, hw⟩ := hw.2
  refine r_getP C fl_RX12_50_11 hob hp (fun _ _ _ => rfl) dX12_place_25 ?_
  refine r_iconst (v := 3) C dX12_place_28 (by decide) ?_
  refine r_iload_n C dX12_place_29 1 rfl ?_
  refine r_imul C dX12_place_30 ?_
  refine r_iconst (v := 2) C dX12_place_31 (by decide) ?_
  refine r_iadd C dX12_place_32 ?_
  refine r_iaload C hw.1 hw.2.1 dX12_place_33 ?_
  replace hw := hw.2.2
  refine r_iadd C dX12_place_34 ?_
  exact r_iret C hr dX12_place_35 hw
theorem dX12_putAt_0 : decode cX12_putAt 0 = .ok (.aload_n 0, 1) := by decide +kernel
theorem dX12_putAt_1 : decode cX12_putAt 1 = .ok (.getfield 50, 3) := by decide +kernel
theorem dX12_putAt_4 : decode cX12_putAt 4 = .ok (.iconst 3, 1) := by decide +kernel
theorem dX12_putAt_5 : decode cX12_putAt 5 = .ok (.iload_n 1, 1) := by decide +kernel
theorem dX12_putAt_6 : decode cX12_putAt 6 = .ok (.imul, 1) := by decide +kernel
theorem dX12_putAt_7 : decode cX12_putAt 7 = .ok (.iload_n 2, 1) := by decide +kernel
theorem dX12_putAt_8 : decode cX12_putAt 8 = .ok (.iconst 2, 1) := by decide +kernel
theorem dX12_putAt_9 : decode cX12_putAt 9 = .ok (.idiv, 1) := by decide +kernel
theorem dX12_putAt_10 : decode cX12_putAt 10 = .ok (.bipush 8, 2) := by decide +kernel
theorem dX12_putAt_12 : decode cX12_putAt 12 = .ok (.irem, 1) := by decide +kernel
theorem dX12_putAt_13 : decode cX12_putAt 13 = .ok (.iastore, 1) := by decide +kernel
theorem dX12_putAt_14 : decode cX12_putAt 14 = .ok (.aload_n 0, 1) := by decide +kernel
theorem dX12_putAt_15 : decode cX12_putAt 15 = .ok (.getfield 50, 3) := by decide +kernel
theorem dX12_putAt_18 : decode cX12_putAt 18 = .ok (.iconst 3, 1) := by decide +kernel
theorem dX12_putAt_19 : decode cX12_putAt 19 = .ok (.iload_n 1, 1) := by decide +kernel
theorem dX12_putAt_20 : decode cX12_putAt 20 = .ok (.imul, 1) := by decide +kernel
theorem dX12_putAt_21 : decode cX12_putAt 21 = .ok (.iconst 1, 1) := by decide +kernel
theorem dX12_putAt_22 : decode cX12_putAt 22 = .ok (.iadd, 1) := by decide +kernel
theorem dX12_putAt_23 : decode cX12_putAt 23 = .ok (.iload_n 2, 1) := by decide +kernel
theorem dX12_putAt_24 : decode cX12_putAt 24 = .ok (.bipush 16, 2) := by decide +kernel
theorem dX12_putAt_26 : decode cX12_putAt 26 = .ok (.idiv, 1) := by decide +kernel
theorem dX12_putAt_27 : decode cX12_putAt 27 = .ok (.iastore, 1) := by decide +kernel
theorem dX12_putAt_28 : decode cX12_putAt 28 = .ok (.aload_n 0, 1) := by decide +kernel
theorem dX12_putAt_29 : decode cX12_putAt 29 = .ok (.getfield 50, 3) := by decide +kernel
theorem dX12_putAt_32 : decode cX12_putAt 32 = .ok (.iconst 3, 1) := by decide +kernel
theorem dX12_putAt_33 : decode cX12_putAt 33 = .ok (.iload_n 1, 1) := by decide +kernel
theorem dX12_putAt_34 : decode cX12_putAt 34 = .ok (.imul, 1) := by decide +kernel
theorem dX12_putAt_35 : decode cX12_putAt 35 = .ok (.iconst 2, 1) := by decide +kernel
theorem dX12_putAt_36 : decode cX12_putAt 36 = .ok (.iadd, 1) := by decide +kernel
theorem dX12_putAt_37 : decode cX12_putAt 37 = .ok (.iload_n 2, 1) := by decide +kernel
theorem dX12_putAt_38 : decode cX12_putAt 38 = .ok (.iconst 2, 1) := by decide +kernel
theorem dX12_putAt_39 : decode cX12_putAt 39 = .ok (.irem, 1) := by decide +kernel
theorem dX12_putAt_40 : decode cX12_putAt 40 = .ok (.iastore, 1) := by decide +kernel
theorem dX12_putAt_41 : decode cX12_putAt 41 = .ok (.return_, 1) := by decide +kernel
def wp_X12_putAt (h : AH) (a0 : Nat) (x1 : Int32) (x2 : Int32) (post : AH → Prop) : Prop := (ob h a0 11) ∧ (∃ rv1, aP h a0 24 = some rv1 ∧ ((ob h rv1 13) ∧ ((vp_in ((3 : Int32) * x1) (aL h rv1)) ∧ (∀ hv2 : AH, hv2 = hI h rv1 ((3 : Int32) * x1).toNatClampNeg ((x2 / 2) - (x2 / 2) / 8 * 8) → ((ob hv2 a0 11) ∧ (∃ rv3, aP hv2 a0 24 = some rv3 ∧ ((ob hv2 rv3 13) ∧ ((vp_in (((3 : Int32) * x1) + (1 : Int32)) (aL hv2 rv3)) ∧ (∀ hv4 : AH, hv4 = hI hv2 rv3 (((3 : Int32) * x1) + (1 : Int32)).toNatClampNeg (x2 / 16) → ((ob hv4 a0 11) ∧ (∃ rv5, aP hv4 a0 24 = some rv5 ∧ ((ob hv4 rv5 13) ∧ ((vp_in (((3 : Int32) * x1) + (2 : Int32)) (aL hv4 rv5)) ∧ (∀ hv6 : AH, hv6 = hI hv4 rv5 (((3 : Int32) * x1) + (2 : Int32)).toNatClampNeg (x2 - x2 / 2 * 2) → (post hv6)))))))))))))))
set_option maxRecDepth 100000 in
theorem c_X12_putAt (G : GG) (h : AH) (a0 : Nat) (x1 : Int32) (x2 : Int32) (post : AH → Prop) (hw : wp_X12_putAt h a0 x1 x2 post) : MC G yX12_putAt cX12_putAt 3 none 0 0 h [.ref (G.1 + a0), .int x1, .int x2] (pV post) := by
  refine MC.of (lv := [(0, .ref (G.1 + a0)), (1, .int x1), (2, .int x2)]) (by decide) (Nat.le_of_ble_eq_true rfl) rfl fun p l e R s m args below meth c C hr hnm => ?_
  unfold wp_X12_putAt at hw
  refine r_aload_n C dX12_putAt_0 0 rfl ?_
  have hob := hw.1
  obtain ⟨rv1, hp, hw⟩ := hw.2
  refine r_getP C fl_RX12_50_11 hob hp (fun _ _ _ => rfl) dX12_putAt_1 ?_
  refine r_iconst (v := 3) C dX12_putAt_4 (by decide) ?_
  refine r_iload_n C dX12_putAt_5 1 rfl ?_
  refine r_imul C dX12_putAt_6 ?_
  refine r_iload_n C dX12_putAt_7 2 rfl ?_
  refine r_iconst (v := 2) C dX12_putAt_8 (by decide) ?_
  refine r_idiv C dX12_putAt_9 (by decide) ?_
  refine r_bipush (v := 8) C dX12_putAt_10 (by decide) ?_
  refine r_irem C dX12_putAt_12 (by decide) ?_
  refine r_iastore C hw.1 hw.2.1 dX12_putAt_13 ?_
  replace hw := hw.2.2
  refine r_toph fun hv2 ehv2 => ?_
  replace hw := hw hv2 ehv2
  refine r_aload_n C dX12_putAt_14 0 rfl ?_
  have hob := hw.1
  obtain ⟨rv3, hp, hw⟩ := hw.2
  refine r_getP C fl_RX12_50_11 hob hp (fun _ _ _ => rfl) dX12_putAt_15 ?_
  refine r_iconst (v := 3) C dX12_putAt_18 (by decide) ?_
  refine r_iload_n C dX12_putAt_19 1 rfl ?_
  refine r_imul C dX12_putAt_20 ?_
  refine r_iconst (v := 1) C dX12_putAt_21 (by decide) ?_
  refine r_iadd C dX12_putAt_22 ?_
  refine r_iload_n C dX12_putAt_23 2 rfl ?_
  refine r_bipush (v := 16) C dX12_putAt_24 (by decide) ?_
  refine r_idiv C dX12_putAt_26 (by decide) ?_
  refine r_iastore C hw.1 hw.2.1 dX12_putAt_27 ?_
  replace hw := hw.2.2
  refine r_toph fun hv4 ehv4 => ?_
  replace hw := hw hv4 ehv4
  refine r_aload_n C dX12_putAt_28 0 rfl ?_
  have hob := hw.1
  obtain ⟨rv5, hp, hw⟩ := hw.2
  refine r_getP C fl_RX12_50_11 hob hp (fun _ _ _ => rfl) dX12_putAt_29 ?_
  refine r_iconst (v := 3) C dX12_putAt_32 (by decide) ?_
  refine r_iload_n C dX12_putAt_33 1 rfl ?_
  refine r_imul C dX12_putAt_34 ?_
  refine r_iconst (v := 2) C dX12_putAt_35 (by decide) ?_
  refine r_iadd C dX12_putAt_36 ?_
  refine r_iload_n C dX12_putAt_37 2 rfl ?_
  refine r_iconst (v := 2) C dX12_putAt_38 (by decide) ?_
  refine r_irem C dX12_putAt_39 (by decide) ?_
  refine r_iastore C hw.1 hw.2.1 dX12_putAt_40 ?_
  replace hw := hw.2.2
  refine r_toph fun hv6 ehv6 => ?_
  replace hw := hw hv6 ehv6
  exact r_vret C hr dX12_putAt_41 hw
theorem dX12_lays_0 : decode cX12_lays 0 = .ok (.aload_n 0, 1) := by decide +kernel
theorem dX12_lays_1 : decode cX12_lays 1 = .ok (.getfield 50, 3) := by decide +kernel
theorem dX12_lays_4 : decode cX12_lays 4 = .ok (.iconst 3, 1) := by decide +kernel
theorem dX12_lays_5 : decode cX12_lays 5 = .ok (.iload_n 1, 1) := by decide +kernel
theorem dX12_lays_6 : decode cX12_lays 6 = .ok (.imul, 1) := by decide +kernel
theorem dX12_lays_7 : decode cX12_lays 7 = .ok (.iload_n 2, 1) := by decide +kernel
theorem dX12_lays_8 : decode cX12_lays 8 = .ok (.iastore, 1) := by decide +kernel
theorem dX12_lays_9 : decode cX12_lays 9 = .ok (.aload_n 0, 1) := by decide +kernel
theorem dX12_lays_10 : decode cX12_lays 10 = .ok (.getfield 50, 3) := by decide +kernel
theorem dX12_lays_13 : decode cX12_lays 13 = .ok (.iconst 3, 1) := by decide +kernel
theorem dX12_lays_14 : decode cX12_lays 14 = .ok (.iload_n 1, 1) := by decide +kernel
theorem dX12_lays_15 : decode cX12_lays 15 = .ok (.imul, 1) := by decide +kernel
theorem dX12_lays_16 : decode cX12_lays 16 = .ok (.iconst 1, 1) := by decide +kernel
theorem dX12_lays_17 : decode cX12_lays 17 = .ok (.iadd, 1) := by decide +kernel
theorem dX12_lays_18 : decode cX12_lays 18 = .ok (.iload_n 3, 1) := by decide +kernel
theorem dX12_lays_19 : decode cX12_lays 19 = .ok (.iastore, 1) := by decide +kernel
theorem dX12_lays_20 : decode cX12_lays 20 = .ok (.aload_n 0, 1) := by decide +kernel
theorem dX12_lays_21 : decode cX12_lays 21 = .ok (.getfield 50, 3) := by decide +kernel
theorem dX12_lays_24 : decode cX12_lays 24 = .ok (.iconst 3, 1) := by decide +kernel
theorem dX12_lays_25 : decode cX12_lays 25 = .ok (.iload_n 1, 1) := by decide +kernel
theorem dX12_lays_26 : decode cX12_lays 26 = .ok (.imul, 1) := by decide +kernel
theorem dX12_lays_27 : decode cX12_lays 27 = .ok (.iconst 2, 1) := by decide +kernel
theorem dX12_lays_28 : decode cX12_lays 28 = .ok (.iadd, 1) := by decide +kernel
theorem dX12_lays_29 : decode cX12_lays 29 = .ok (.aload_n 0, 1) := by decide +kernel
theorem dX12_lays_30 : decode cX12_lays 30 = .ok (.getfield 53, 3) := by decide +kernel
theorem dX12_lays_33 : decode cX12_lays 33 = .ok (.iconst 3, 1) := by decide +kernel
theorem dX12_lays_34 : decode cX12_lays 34 = .ok (.iload_n 1, 1) := by decide +kernel
theorem dX12_lays_35 : decode cX12_lays 35 = .ok (.imul, 1) := by decide +kernel
theorem dX12_lays_36 : decode cX12_lays 36 = .ok (.iaload, 1) := by decide +kernel
theorem dX12_lays_37 : decode cX12_lays 37 = .ok (.aload_n 0, 1) := by decide +kernel
theorem dX12_lays_38 : decode cX12_lays 38 = .ok (.getfield 53, 3) := by decide +kernel
theorem dX12_lays_41 : decode cX12_lays 41 = .ok (.iconst 3, 1) := by decide +kernel
theorem dX12_lays_42 : decode cX12_lays 42 = .ok (.iload_n 1, 1) := by decide +kernel
theorem dX12_lays_43 : decode cX12_lays 43 = .ok (.imul, 1) := by decide +kernel
theorem dX12_lays_44 : decode cX12_lays 44 = .ok (.iconst 1, 1) := by decide +kernel
theorem dX12_lays_45 : decode cX12_lays 45 = .ok (.iadd, 1) := by decide +kernel
theorem dX12_lays_46 : decode cX12_lays 46 = .ok (.iaload, 1) := by decide +kernel
theorem dX12_lays_47 : decode cX12_lays 47 = .ok (.if_icmp .ne 7, 3) := by decide +kernel
theorem dX12_lays_50 : decode cX12_lays 50 = .ok (.iconst 0, 1) := by decide +kernel
theorem dX12_lays_51 : decode cX12_lays 51 = .ok (.goto 5, 3) := by decide +kernel
theorem dX12_lays_54 : decode cX12_lays 54 = .ok (.iload 4, 2) := by decide +kernel
theorem dX12_lays_56 : decode cX12_lays 56 = .ok (.iastore, 1) := by decide +kernel
theorem dX12_lays_57 : decode cX12_lays 57 = .ok (.aload_n 0, 1) := by decide +kernel
theorem dX12_lays_58 : decode cX12_lays 58 = .ok (.iload_n 1, 1) := by decide +kernel
theorem dX12_lays_59 : decode cX12_lays 59 = .ok (.invokevirtual 326, 3) := by decide +kernel
theorem dX12_lays_62 : decode cX12_lays 62 = .ok (.ireturn, 1) := by decide +kernel
def wb_X12_lays_56  (h : AH) (al0 : Nat) (xl1 : Int32) (xs0 : Int32) (xs1 : Int32) (as2 : Nat) (post : AH → Int32 → Prop) : Prop := (ob h as2 13) ∧ ((vp_in xs1 (aL h as2)) ∧ (∀ hv1 : AH, hv1 = hI h as2 xs1.toNatClampNeg xs0 → ((ob hv1 al0 11) ∧ wp_X12_isInside hv1 al0 xl1 (fun hv2 iv3 => (iv3 = 0 ∨ iv3 = 1) ∧ post hv2 iv3))))
set_option maxRecDepth 100000 in
theorem tb_X12_lays_56 {G : GG} {p : Program} {l : Launch} {e : Env} {R : Room} {s : State} {m : MethodId} {args : Array Value} {below : List Frame} {meth : Method} {c : Code} {n0 s0 : Nat} {post : AH → Int32 → Prop} (C : Cx G p R s m args meth c 5 cX12_lays RX12 n0 s0 2 42) (hr : meth.sig.returnType = (some .boolean))   {h : AH} {al0 : Nat} {xl1 : Int32} {xs0 : Int32} {xs1 : Int32} {as2 : Nat} (hw : wb_X12_lays_56  h al0 xl1 xs0 xs1 as2 post) : AW G p l e R s m args below meth c 5 (QM G (pI post) args s below n0 s0) 56 [(0, .ref (G.1 + al0)), (1, .int xl1)] [.int xs0, .int xs1, .ref (G.1 + as2)] h := by
  unfold wb_X12_lays_56 at hw
  refine r_iastore C hw.1 hw.2.1 dX12_lays_56 ?_
  replace hw := hw.2.2
  refine r_toph fun hv1 ehv1 => ?_
  replace hw := hw hv1 ehv1
  refine r_aload_n C dX12_lays_57 0 rfl ?_
  refine r_iload_n C dX12_lays_58 1 rfl ?_
  have hob := hw.1
  replace hw := hw.2
  refine r_callV C (As := [.int xl1]) (rest := []) (c_X12_isInside G hv1 al0 xl1 _ hw) yl_X12_isInside (gm8 (List.mem_of_getElem? (i := 81) rfl) rfl) (gm8 (List.mem_of_getElem? (i := 83) rfl) rfl) (ci := 11) rfl (by decide) (gsel (List.mem_of_getElem? (i := 74) rfl)) hob (by decide) rfl (Nat.le_of_ble_eq_true rfl) dX12_lays_59 rfl (kI fun hv2 iv3 hw => ?_)
  exact r_zret C hr dX12_lays_62 hw.1 hw.2
def wp_X12_lays (h : AH) (a0 : Nat) (x1 : Int32) (x2 : Int32) (x3 : Int32) (x4 : Int32) (post : AH → Int32 → Prop) : Prop := (ob h a0 11) ∧ (∃ rv1, aP h a0 24 = some rv1 ∧ ((ob h rv1 13) ∧ ((vp_in ((3 : Int32) * x1) (aL h rv1)) ∧ (∀ hv2 : AH, hv2 = hI h rv1 ((3 : Int32) * x1).toNatClampNeg x2 → ((ob hv2 a0 11) ∧ (∃ rv3, aP hv2 a0 24 = some rv3 ∧ ((ob hv2 rv3 13) ∧ ((vp_in (((3 : Int32) * x1) + (1 : Int32)) (aL hv2 rv3)) ∧ (∀ hv4 : AH, hv4 = hI hv2 rv3 (((3 : Int32) * x1) + (1 : Int32)).toNatClampNeg x3 → ((ob hv4 a0 11) ∧ (∃ rv5, aP hv4 a0 24 = some rv5 ∧ ((ob hv4 a0 11) ∧ (∃ rv6, aP hv4 a0 25 = some rv6 ∧ ((ob hv4 rv6 13) ∧ ((vp_in ((3 : Int32) * x1) (aL hv4 rv6)) ∧ ((ob hv4 a0 11) ∧ (∃ rv7, aP hv4 a0 25 = some rv7 ∧ ((ob hv4 rv7 13) ∧ ((vp_in (((3 : Int32) * x1) + (1 : Int32)) (aL hv4 rv7)) ∧ ((¬ (aI hv4 rv6 ((3 : Int32) * x1).toNatClampNeg) = (aI hv4 rv7 (((3 : Int32) * x1) + (1 : Int32)).toNatClampNeg) → (wb_X12_lays_56  hv4 a0 x1 x4 (((3 : Int32) * x1) + (2 : Int32)) rv5 post)) ∧ ((aI hv4 rv6 ((3 : Int32) * x1).toNatClampNeg) = (aI hv4 rv7 (((3 : Int32) * x1) + (1 : Int32)).toNatClampNeg) → (wb_X12_lays_56  hv4 a0 x1 0 (((3 : Int32) * x1) + (2 : Int32)) rv5 post))))))))))))))))))))))
set_option maxRecDepth 100000 in
theorem c_X12_lays (G : GG) (h : AH) (a0 : Nat) (x1 : Int32) (x2 : Int32) (x3 : Int32) (x4 : Int32) (post : AH → Int32 → Prop) (hw : wp_X12_lays h a0 x1 x2 x3 x4 post) : MC G yX12_lays cX12_lays 5 (some .boolean) 2 42 h [.ref (G.1 + a0), .int x1, .int x2, .int x3, .int x4] (pI post) := by
  refine MC.of (lv := [(0, .ref (G.1 + a0)), (1, .int x1), (2, .int x2), (3, .int x3), (4, .int x4)]) (by decide) (Nat.le_of_ble_eq_true rfl) rfl fun p l e R s m args below meth c C hr hnm => ?_
  unfold wp_X12_lays at hw
  refine r_aload_n C dX12_lays_0 0 rfl ?_
  have hob := hw.1
  obtain ⟨rv1, hp, hw⟩ := hw.2
  refine r_getP C fl_RX12_50_11 hob hp (fun _ _ _ => rfl) dX12_lays_1 ?_
  refine r_iconst (v := 3) C dX12_lays_4 (by decide) ?_
  refine r_iload_n C dX12_lays_5 1 rfl ?_
  refine r_imul C dX12_lays_6 ?_
  refine r_iload_n C dX12_lays_7 2 rfl ?_
  refine r_iastore C hw.1 hw.2.1 dX12_lays_8 ?_
  replace hw := hw.2.2
  refine r_toph fun hv2 ehv2 => ?_
  replace hw := hw hv2 ehv2
  refine r_aload_n C dX12_lays_9 0 rfl ?_
  have hob := hw.1
  obtain ⟨rv3, hp, hw⟩ := hw.2
  refine r_getP C fl_RX12_50_11 hob hp (fun _ _ _ => rfl) dX12_lays_10 ?_
  refine r_iconst (v := 3) C dX12_lays_13 (by decide) ?_
  refine r_iload_n C dX12_lays_14 1 rfl ?_
  refine r_imul C dX12_lays_15 ?_
  refine r_iconst (v := 1) C dX12_lays_16 (by decide) ?_
  refine r_iadd C dX12_lays_17 ?_
  refine r_iload_n C dX12_lays_18 3 rfl ?_
  refine r_iastore C hw.1 hw.2.1 dX12_lays_19 ?_
  replace hw := hw.2.2
  refine r_toph fun hv4 ehv4 => ?_
  replace hw := hw hv4 ehv4
  refine r_aload_n C dX12_lays_20 0 rfl ?_
  have hob := hw.1
  obtain ⟨rv5, hp, hw⟩ := hw.2
  refine r_getP C fl_RX12_50_11 hob hp (fun _ _ _ => rfl) dX12_lays_21 ?_
  refine r_iconst (v := 3) C dX12_lays_24 (by decide) ?_
  refine r_iload_n C dX12_lays_25 1 rfl ?_
  refine r_imul C dX12_lays_26 ?_
  refine r_iconst (v := 2) C dX12_lays_27 (by decide) ?_
  refine r_iadd C dX12_lays_28 ?_
  refine r_aload_n C dX12_lays_29 0 rfl ?_
  have hob := hw.1
  obtain ⟨rv6, hp, hw⟩ := hw.2
  refine r_getP C fl_RX12_53_11 hob hp (fun _ _ _ => rfl) dX12_lays_30 ?_
  refine r_iconst (v := 3) C dX12_lays_33 (by decide) ?_
  refine r_iload_n C dX12_lays_34 1 rfl ?_
  refine r_imul C dX12_lays_35 ?_
  refine r_iaload C hw.1 hw.2.1 dX12_lays_36 ?_
  replace hw := hw.2.2
  refine r_aload_n C dX12_lays_37 0 rfl ?_
  have hob := hw.1
  obtain ⟨rv7, hp, hw⟩ := hw.2
  refine r_getP C fl_RX12_53_11 hob hp (fun _ _ _ => rfl) dX12_lays_38 ?_
  refine r_iconst (v := 3) C dX12_lays_41 (by decide) ?_
  refine r_iload_n C dX12_lays_42 1 rfl ?_
  refine r_imul C dX12_lays_43 ?_
  refine r_iconst (v := 1) C dX12_lays_44 (by decide) ?_
  refine r_iadd C dX12_lays_45 ?_
  refine r_iaload C hw.1 hw.2.1 dX12_lays_46 ?_
  replace hw := hw.2.2
  refine r_icmp_ne C dX12_lays_47 54 (by decide) (fun hc => ?_) (fun hc => ?_)
  · replace hw := hw.1 hc
    refine r_iload C dX12_lays_54 4 rfl ?_
    refine r_sub [0, 1] rfl ?_
    exact tb_X12_lays_56 C hr  hw
  · replace hw := hw.2 hc
    refine r_iconst (v := 0) C dX12_lays_50 (by decide) ?_
    refine r_goto C dX12_lays_51 56 (by decide) ?_
    refine r_sub [0, 1] rfl ?_
    exact tb_X12_lays_56 C hr  hw
theorem dX12_alone_0 : decode cX12_alone 0 = .ok (.aload_n 0, 1) := by decide +kernel
theorem dX12_alone_1 : decode cX12_alone 1 = .ok (.iconst 0, 1) := by decide +kernel
theorem dX12_alone_2 : decode cX12_alone 2 = .ok (.putfield 1, 3) := by decide +kernel
theorem dX12_alone_5 : decode cX12_alone 5 = .ok (.aload_n 0, 1) := by decide +kernel
theorem dX12_alone_6 : decode cX12_alone 6 = .ok (.iload_n 1, 1) := by decide +kernel
theorem dX12_alone_7 : decode cX12_alone 7 = .ok (.invokevirtual 310, 3) := by decide +kernel
theorem dX12_alone_10 : decode cX12_alone 10 = .ok (.ifCond .eq 30, 3) := by decide +kernel
theorem dX12_alone_13 : decode cX12_alone 13 = .ok (.aload_n 0, 1) := by decide +kernel
theorem dX12_alone_14 : decode cX12_alone 14 = .ok (.iload_n 2, 1) := by decide +kernel
theorem dX12_alone_15 : decode cX12_alone 15 = .ok (.iload_n 3, 1) := by decide +kernel
theorem dX12_alone_16 : decode cX12_alone 16 = .ok (.invokevirtual 287, 3) := by decide +kernel
theorem dX12_alone_19 : decode cX12_alone 19 = .ok (.ifCond .eq 21, 3) := by decide +kernel
theorem dX12_alone_22 : decode cX12_alone 22 = .ok (.iload 4, 2) := by decide +kernel
theorem dX12_alone_24 : decode cX12_alone 24 = .ok (.iconst 0, 1) := by decide +kernel
theorem dX12_alone_25 : decode cX12_alone 25 = .ok (.iconst 1, 1) := by decide +kernel
theorem dX12_alone_26 : decode cX12_alone 26 = .ok (.invokestatic 196, 3) := by decide +kernel
theorem dX12_alone_29 : decode cX12_alone 29 = .ok (.ifCond .eq 11, 3) := by decide +kernel
theorem dX12_alone_32 : decode cX12_alone 32 = .ok (.iload 5, 2) := by decide +kernel
theorem dX12_alone_34 : decode cX12_alone 34 = .ok (.invokestatic 290, 3) := by decide +kernel
theorem dX12_alone_37 : decode cX12_alone 37 = .ok (.ifCond .ne 6, 3) := by decide +kernel
theorem dX12_alone_40 : decode cX12_alone 40 = .ok (.bipush (-2), 2) := by decide +kernel
theorem dX12_alone_42 : decode cX12_alone 42 = .ok (.ireturn, 1) := by decide +kernel
theorem dX12_alone_43 : decode cX12_alone 43 = .ok (.aload_n 0, 1) := by decide +kernel
theorem dX12_alone_44 : decode cX12_alone 44 = .ok (.invokevirtual 317, 3) := by decide +kernel
theorem dX12_alone_47 : decode cX12_alone 47 = .ok (.aload_n 0, 1) := by decide +kernel
theorem dX12_alone_48 : decode cX12_alone 48 = .ok (.iload_n 1, 1) := by decide +kernel
theorem dX12_alone_49 : decode cX12_alone 49 = .ok (.invokevirtual 421, 3) := by decide +kernel
theorem dX12_alone_52 : decode cX12_alone 52 = .ok (.istore 6, 2) := by decide +kernel
theorem dX12_alone_54 : decode cX12_alone 54 = .ok (.aload_n 0, 1) := by decide +kernel
theorem dX12_alone_55 : decode cX12_alone 55 = .ok (.iload_n 1, 1) := by decide +kernel
theorem dX12_alone_56 : decode cX12_alone 56 = .ok (.iload_n 2, 1) := by decide +kernel
theorem dX12_alone_57 : decode cX12_alone 57 = .ok (.iload_n 3, 1) := by decide +kernel
theorem dX12_alone_58 : decode cX12_alone 58 = .ok (.iload 4, 2) := by decide +kernel
theorem dX12_alone_60 : decode cX12_alone 60 = .ok (.invokevirtual 424, 3) := by decide +kernel
theorem dX12_alone_63 : decode cX12_alone 63 = .ok (.ifCond .ne 6, 3) := by decide +kernel
theorem dX12_alone_66 : decode cX12_alone 66 = .ok (.bipush (-2), 2) := by decide +kernel
theorem dX12_alone_68 : decode cX12_alone 68 = .ok (.ireturn, 1) := by decide +kernel
theorem dX12_alone_69 : decode cX12_alone 69 = .ok (.aload_n 0, 1) := by decide +kernel
theorem dX12_alone_70 : decode cX12_alone 70 = .ok (.iload_n 1, 1) := by decide +kernel
theorem dX12_alone_71 : decode cX12_alone 71 = .ok (.invokevirtual 421, 3) := by decide +kernel
theorem dX12_alone_74 : decode cX12_alone 74 = .ok (.istore 7, 2) := by decide +kernel
theorem dX12_alone_76 : decode cX12_alone 76 = .ok (.iconst 0, 1) := by decide +kernel
theorem dX12_alone_77 : decode cX12_alone 77 = .ok (.istore 8, 2) := by decide +kernel
theorem dX12_alone_79 : decode cX12_alone 79 = .ok (.iload 8, 2) := by decide +kernel
theorem dX12_alone_81 : decode cX12_alone 81 = .ok (.sipush 128, 3) := by decide +kernel
theorem dX12_alone_84 : decode cX12_alone 84 = .ok (.if_icmp .ge 17, 3) := by decide +kernel
theorem dX12_alone_87 : decode cX12_alone 87 = .ok (.aload_n 0, 1) := by decide +kernel
theorem dX12_alone_88 : decode cX12_alone 88 = .ok (.getfield 84, 3) := by decide +kernel
theorem dX12_alone_91 : decode cX12_alone 91 = .ok (.iload 8, 2) := by decide +kernel
theorem dX12_alone_93 : decode cX12_alone 93 = .ok (.iconst (-1), 1) := by decide +kernel
theorem dX12_alone_94 : decode cX12_alone 94 = .ok (.iastore, 1) := by decide +kernel
theorem dX12_alone_95 : decode cX12_alone 95 = .ok (.iinc 8 1, 3) := by decide +kernel
theorem dX12_alone_98 : decode cX12_alone 98 = .ok (.goto (-19), 3) := by decide +kernel
theorem dX12_alone_101 : decode cX12_alone 101 = .ok (.aload_n 0, 1) := by decide +kernel
theorem dX12_alone_102 : decode cX12_alone 102 = .ok (.getfield 84, 3) := by decide +kernel
theorem dX12_alone_105 : decode cX12_alone 105 = .ok (.iload 6, 2) := by decide +kernel
theorem dX12_alone_107 : decode cX12_alone 107 = .ok (.iconst 0, 1) := by decide +kernel
theorem dX12_alone_108 : decode cX12_alone 108 = .ok (.iastore, 1) := by decide +kernel
theorem dX12_alone_109 : decode cX12_alone 109 = .ok (.aload_n 0, 1) := by decide +kernel
theorem dX12_alone_110 : decode cX12_alone 110 = .ok (.getfield 93, 3) := by decide +kernel
theorem dX12_alone_113 : decode cX12_alone 113 = .ok (.iconst 0, 1) := by decide +kernel
theorem dX12_alone_114 : decode cX12_alone 114 = .ok (.iload 6, 2) := by decide +kernel
theorem dX12_alone_116 : decode cX12_alone 116 = .ok (.iastore, 1) := by decide +kernel
theorem dX12_alone_117 : decode cX12_alone 117 = .ok (.iconst 1, 1) := by decide +kernel
theorem dX12_alone_118 : decode cX12_alone 118 = .ok (.istore 8, 2) := by decide +kernel
theorem dX12_alone_120 : decode cX12_alone 120 = .ok (.iconst 0, 1) := by decide +kernel
theorem dX12_alone_121 : decode cX12_alone 121 = .ok (.istore 9, 2) := by decide +kernel
theorem dX12_alone_123 : decode cX12_alone 123 = .ok (.iload 9, 2) := by decide +kernel
theorem dX12_alone_125 : decode cX12_alone 125 = .ok (.iload 8, 2) := by decide +kernel
theorem dX12_alone_127 : decode cX12_alone 127 = .ok (.if_icmp .ge 126, 3) := by decide +kernel
theorem dX12_alone_130 : decode cX12_alone 130 = .ok (.aload_n 0, 1) := by decide +kernel
theorem dX12_alone_131 : decode cX12_alone 131 = .ok (.getfield 93, 3) := by decide +kernel
theorem dX12_alone_134 : decode cX12_alone 134 = .ok (.iload 9, 2) := by decide +kernel
theorem dX12_alone_136 : decode cX12_alone 136 = .ok (.iaload, 1) := by decide +kernel
theorem dX12_alone_137 : decode cX12_alone 137 = .ok (.istore 10, 2) := by decide +kernel
theorem dX12_alone_139 : decode cX12_alone 139 = .ok (.iconst 0, 1) := by decide +kernel
theorem dX12_alone_140 : decode cX12_alone 140 = .ok (.istore 11, 2) := by decide +kernel
theorem dX12_alone_142 : decode cX12_alone 142 = .ok (.iload 11, 2) := by decide +kernel
theorem dX12_alone_144 : decode cX12_alone 144 = .ok (.iconst 4, 1) := by decide +kernel
theorem dX12_alone_145 : decode cX12_alone 145 = .ok (.if_icmp .gt 102, 3) := by decide +kernel
theorem dX12_alone_148 : decode cX12_alone 148 = .ok (.aload_n 0, 1) := by decide +kernel
theorem dX12_alone_149 : decode cX12_alone 149 = .ok (.iload_n 1, 1) := by decide +kernel
theorem dX12_alone_150 : decode cX12_alone 150 = .ok (.iload 10, 2) := by decide +kernel
theorem dX12_alone_152 : decode cX12_alone 152 = .ok (.invokevirtual 428, 3) := by decide +kernel
theorem dX12_alone_155 : decode cX12_alone 155 = .ok (.aload_n 0, 1) := by decide +kernel
theorem dX12_alone_156 : decode cX12_alone 156 = .ok (.iload_n 1, 1) := by decide +kernel
theorem dX12_alone_157 : decode cX12_alone 157 = .ok (.iload 11, 2) := by decide +kernel
theorem dX12_alone_159 : decode cX12_alone 159 = .ok (.iload 5, 2) := by decide +kernel
theorem dX12_alone_161 : decode cX12_alone 161 = .ok (.invokevirtual 350, 3) := by decide +kernel
theorem dX12_alone_164 : decode cX12_alone 164 = .ok (.ifCond .le 6, 3) := by decide +kernel
theorem dX12_alone_167 : decode cX12_alone 167 = .ok (.goto 74, 3) := by decide +kernel
theorem dX12_alone_170 : decode cX12_alone 170 = .ok (.aload_n 0, 1) := by decide +kernel
theorem dX12_alone_171 : decode cX12_alone 171 = .ok (.iload_n 1, 1) := by decide +kernel
theorem dX12_alone_172 : decode cX12_alone 172 = .ok (.invokevirtual 421, 3) := by decide +kernel
theorem dX12_alone_175 : decode cX12_alone 175 = .ok (.istore 12, 2) := by decide +kernel
theorem dX12_alone_177 : decode cX12_alone 177 = .ok (.aload_n 0, 1) := by decide +kernel
theorem dX12_alone_178 : decode cX12_alone 178 = .ok (.getfield 84, 3) := by decide +kernel
theorem dX12_alone_181 : decode cX12_alone 181 = .ok (.iload 12, 2) := by decide +kernel
theorem dX12_alone_183 : decode cX12_alone 183 = .ok (.iaload, 1) := by decide +kernel
theorem dX12_alone_184 : decode cX12_alone 184 = .ok (.ifCond .lt 6, 3) := by decide +kernel
theorem dX12_alone_187 : decode cX12_alone 187 = .ok (.goto 54, 3) := by decide +kernel
theorem dX12_alone_190 : decode cX12_alone 190 = .ok (.aload_n 0, 1) := by decide +kernel
theorem dX12_alone_191 : decode cX12_alone 191 = .ok (.getfield 84, 3) := by decide +kernel
theorem dX12_alone_194 : decode cX12_alone 194 = .ok (.iload 12, 2) := by decide +kernel
theorem dX12_alone_196 : decode cX12_alone 196 = .ok (.aload_n 0, 1) := by decide +kernel
theorem dX12_alone_197 : decode cX12_alone 197 = .ok (.getfield 84, 3) := by decide +kernel
theorem dX12_alone_200 : decode cX12_alone 200 = .ok (.iload 10, 2) := by decide +kernel
theorem dX12_alone_202 : decode cX12_alone 202 = .ok (.iaload, 1) := by decide +kernel
theorem dX12_alone_203 : decode cX12_alone 203 = .ok (.iconst 1, 1) := by decide +kernel
theorem dX12_alone_204 : decode cX12_alone 204 = .ok (.iadd, 1) := by decide +kernel
theorem dX12_alone_205 : decode cX12_alone 205 = .ok (.iastore, 1) := by decide +kernel
theorem dX12_alone_206 : decode cX12_alone 206 = .ok (.aload_n 0, 1) := by decide +kernel
theorem dX12_alone_207 : decode cX12_alone 207 = .ok (.getfield 87, 3) := by decide +kernel
theorem dX12_alone_210 : decode cX12_alone 210 = .ok (.iload 12, 2) := by decide +kernel
theorem dX12_alone_212 : decode cX12_alone 212 = .ok (.iload 10, 2) := by decide +kernel
theorem dX12_alone_214 : decode cX12_alone 214 = .ok (.iastore, 1) := by decide +kernel
theorem dX12_alone_215 : decode cX12_alone 215 = .ok (.aload_n 0, 1) := by decide +kernel
theorem dX12_alone_216 : decode cX12_alone 216 = .ok (.getfield 90, 3) := by decide +kernel
theorem dX12_alone_219 : decode cX12_alone 219 = .ok (.iload 12, 2) := by decide +kernel
theorem dX12_alone_221 : decode cX12_alone 221 = .ok (.bipush 10, 2) := by decide +kernel
theorem dX12_alone_223 : decode cX12_alone 223 = .ok (.iload_n 1, 1) := by decide +kernel
theorem dX12_alone_224 : decode cX12_alone 224 = .ok (.imul, 1) := by decide +kernel
theorem dX12_alone_225 : decode cX12_alone 225 = .ok (.iload 11, 2) := by decide +kernel
theorem dX12_alone_227 : decode cX12_alone 227 = .ok (.iadd, 1) := by decide +kernel
theorem dX12_alone_228 : decode cX12_alone 228 = .ok (.iastore, 1) := by decide +kernel
theorem dX12_alone_229 : decode cX12_alone 229 = .ok (.aload_n 0, 1) := by decide +kernel
theorem dX12_alone_230 : decode cX12_alone 230 = .ok (.getfield 93, 3) := by decide +kernel
theorem dX12_alone_233 : decode cX12_alone 233 = .ok (.iload 8, 2) := by decide +kernel
theorem dX12_alone_235 : decode cX12_alone 235 = .ok (.iload 12, 2) := by decide +kernel
theorem dX12_alone_237 : decode cX12_alone 237 = .ok (.iastore, 1) := by decide +kernel
theorem dX12_alone_238 : decode cX12_alone 238 = .ok (.iinc 8 1, 3) := by decide +kernel
theorem dX12_alone_241 : decode cX12_alone 241 = .ok (.iinc 11 1, 3) := by decide +kernel
theorem dX12_alone_244 : decode cX12_alone 244 = .ok (.goto (-102), 3) := by decide +kernel
theorem dX12_alone_247 : decode cX12_alone 247 = .ok (.iinc 9 1, 3) := by decide +kernel
theorem dX12_alone_250 : decode cX12_alone 250 = .ok (.goto (-127), 3) := by decide +kernel
theorem dX12_alone_253 : decode cX12_alone 253 = .ok (.aload_n 0, 1) := by decide +kernel
theorem dX12_alone_254 : decode cX12_alone 254 = .ok (.getfield 84, 3) := by decide +kernel
theorem dX12_alone_257 : decode cX12_alone 257 = .ok (.iload 7, 2) := by decide +kernel
theorem dX12_alone_259 : decode cX12_alone 259 = .ok (.iaload, 1) := by decide +kernel
theorem dX12_alone_260 : decode cX12_alone 260 = .ok (.ifCond .ge 5, 3) := by decide +kernel
theorem dX12_alone_263 : decode cX12_alone 263 = .ok (.iconst (-1), 1) := by decide +kernel
theorem dX12_alone_264 : decode cX12_alone 264 = .ok (.ireturn, 1) := by decide +kernel
theorem dX12_alone_265 : decode cX12_alone 265 = .ok (.aload_n 0, 1) := by decide +kernel
theorem dX12_alone_266 : decode cX12_alone 266 = .ok (.aload_n 0, 1) := by decide +kernel
theorem dX12_alone_267 : decode cX12_alone 267 = .ok (.getfield 84, 3) := by decide +kernel
theorem dX12_alone_270 : decode cX12_alone 270 = .ok (.iload 7, 2) := by decide +kernel
theorem dX12_alone_272 : decode cX12_alone 272 = .ok (.iaload, 1) := by decide +kernel
theorem dX12_alone_273 : decode cX12_alone 273 = .ok (.putfield 408, 3) := by decide +kernel
theorem dX12_alone_276 : decode cX12_alone 276 = .ok (.iload 7, 2) := by decide +kernel
theorem dX12_alone_278 : decode cX12_alone 278 = .ok (.istore 9, 2) := by decide +kernel
theorem dX12_alone_280 : decode cX12_alone 280 = .ok (.aload_n 0, 1) := by decide +kernel
theorem dX12_alone_281 : decode cX12_alone 281 = .ok (.getfield 408, 3) := by decide +kernel
theorem dX12_alone_284 : decode cX12_alone 284 = .ok (.iconst 1, 1) := by decide +kernel
theorem dX12_alone_285 : decode cX12_alone 285 = .ok (.isub, 1) := by decide +kernel
theorem dX12_alone_286 : decode cX12_alone 286 = .ok (.istore 10, 2) := by decide +kernel
theorem dX12_alone_288 : decode cX12_alone 288 = .ok (.iload 10, 2) := by decide +kernel
theorem dX12_alone_290 : decode cX12_alone 290 = .ok (.ifCond .lt 32, 3) := by decide +kernel
theorem dX12_alone_293 : decode cX12_alone 293 = .ok (.aload_n 0, 1) := by decide +kernel
theorem dX12_alone_294 : decode cX12_alone 294 = .ok (.getfield 81, 3) := by decide +kernel
theorem dX12_alone_297 : decode cX12_alone 297 = .ok (.iload 10, 2) := by decide +kernel
theorem dX12_alone_299 : decode cX12_alone 299 = .ok (.aload_n 0, 1) := by decide +kernel
theorem dX12_alone_300 : decode cX12_alone 300 = .ok (.getfield 90, 3) := by decide +kernel
theorem dX12_alone_303 : decode cX12_alone 303 = .ok (.iload 9, 2) := by decide +kernel
theorem dX12_alone_305 : decode cX12_alone 305 = .ok (.iaload, 1) := by decide +kernel
theorem dX12_alone_306 : decode cX12_alone 306 = .ok (.iastore, 1) := by decide +kernel
theorem dX12_alone_307 : decode cX12_alone 307 = .ok (.aload_n 0, 1) := by decide +kernel
theorem dX12_alone_308 : decode cX12_alone 308 = .ok (.getfield 87, 3) := by decide +kernel
theorem dX12_alone_311 : decode cX12_alone 311 = .ok (.iload 9, 2) := by decide +kernel
theorem dX12_alone_313 : decode cX12_alone 313 = .ok (.iaload, 1) := by decide +kernel
theorem dX12_alone_314 : decode cX12_alone 314 = .ok (.istore 9, 2) := by decide +kernel
theorem dX12_alone_316 : decode cX12_alone 316 = .ok (.iinc 10 (-1), 3) := by decide +kernel
theorem dX12_alone_319 : decode cX12_alone 319 = .ok (.goto (-31), 3) := by decide +kernel
theorem dX12_alone_322 : decode cX12_alone 322 = .ok (.aload_n 0, 1) := by decide +kernel
theorem dX12_alone_323 : decode cX12_alone 323 = .ok (.getfield 408, 3) := by decide +kernel
theorem dX12_alone_326 : decode cX12_alone 326 = .ok (.ireturn, 1) := by decide +kernel
def wb_X12_alone_288 (K288 : AH → Nat → Int32 → Int32 → Prop) (h : AH) (al0 : Nat) (xl9 : Int32) (xl10 : Int32)  (post : AH → Int32 → Prop) : Prop := (xl10 < 0 → ((ob h al0 11) ∧ (post h (aI h al0 40)))) ∧ (¬ xl10 < 0 → ((ob h al0 11) ∧ (∃ rv1, aP h al0 39 = some rv1 ∧ ((ob h al0 11) ∧ (∃ rv2, aP h al0 44 = some rv2 ∧ ((ob h rv2 13) ∧ ((vp_in xl9 (aL h rv2)) ∧ ((ob h rv1 13) ∧ ((vp_in xl10 (aL h rv1)) ∧ (∀ hv3 : AH, hv3 = hI h rv1 xl10.toNatClampNeg (aI h rv2 xl9.toNatClampNeg) → ((ob hv3 al0 11) ∧ (∃ rv4, aP hv3 al0 43 = some rv4 ∧ ((ob hv3 rv4 13) ∧ ((vp_in xl9 (aL hv3 rv4)) ∧ (∀ iv5 : Int32, iv5 = aI hv3 rv4 xl9.toNatClampNeg → (∀ iv6 : Int32, iv6 = xl10 + (-1) → (K288 hv3 al0 iv5 iv6)))))))))))))))))
set_option maxRecDepth 100000 in
theorem tb_X12_alone_288 {G : GG} {p : Program} {l : Launch} {e : Env} {R : Room} {s : State} {m : MethodId} {args : Array Value} {below : List Frame} {meth : Method} {c : Code} {n0 s0 : Nat} {post : AH → Int32 → Prop} (C : Cx G p R s m args meth c 13 cX12_alone RX12 n0 s0 4 98) (hr : meth.sig.returnType = (some .int)) {K288 : AH → Nat → Int32 → Int32 → Prop} (hK288 : ∀ (h : AH) (al0 : Nat) (xl9 : Int32) (xl10 : Int32), K288 h al0 xl9 xl10 → AW G p l e R s m args below meth c 13 (QM G (pI post) args s below n0 s0) 288 [(0, .ref (G.1 + al0)), (9, .int xl9), (10, .int xl10)] [] h) {h : AH} {al0 : Nat} {xl9 : Int32} {xl10 : Int32}  (hw : wb_X12_alone_288 K288 h al0 xl9 xl10 post) : AW G p l e R s m args below meth c 13 (QM G (pI post) args s below n0 s0) 288 [(0, .ref (G.1 + al0)), (9, .int xl9), (10, .int xl10)] [] h := by
  unfold wb_X12_alone_288 at hw
  refine r_iload C dX12_alone_288 2 rfl ?_
  refine r_if_lt C dX12_alone_290 322 (by decide) (fun hc => ?_) (fun hc => ?_)
  · replace hw := hw.1 hc
    refine r_aload_n C dX12_alone_322 0 rfl ?_
    refine r_getI C fl_RX12_408_11 hw.1 (fun _ _ _ => rfl) dX12_alone_323 ?_
    replace hw := hw.2
    exact r_iret C hr dX12_alone_326 hw
  · replace hw := hw.2 hc
    refine r_aload_n C dX12_alone_293 0 rfl ?_
    have hob := hw.1
    obtain ⟨rv1, hp, hw⟩ := hw.2
    refine r_getP C fl_RX12_81_11 hob hp (fun _ _ _ => rfl) dX12_alone_294 ?_
    refine r_iload C dX12_alone_297 2 rfl ?_
    refine r_aload_n C dX12_alone_299 0 rfl ?_
    have hob := hw.1
    obtain ⟨rv2, hp, hw⟩ := hw.2
    refine r_getP C fl_RX12_90_11 hob hp (fun _ _ _ => rfl) dX12_alone_300 ?_
    refine r_iload C dX12_alone_303 1 rfl ?_
    refine r_iaload C hw.1 hw.2.1 dX12_alone_305 ?_
    replace hw := hw.2.2
    refine r_iastore C hw.1 hw.2.1 dX12_alone_306 ?_
    replace hw := hw.2.2
    refine r_toph fun hv3 ehv3 => ?_
    replace hw := hw hv3 ehv3
    refine r_aload_n C dX12_alone_307 0 rfl ?_
    have hob := hw.1
    obtain ⟨rv4, hp, hw⟩ := hw.2
    refine r_getP C fl_RX12_87_11 hob hp (fun _ _ _ => rfl) dX12_alone_308 ?_
    refine r_iload C dX12_alone_311 1 rfl ?_
    refine r_iaload C hw.1 hw.2.1 dX12_alone_313 ?_
    replace hw := hw.2.2
    refine r_topi fun iv5 eiv5 => ?_
    replace hw := hw iv5 eiv5
    refine r_istore C dX12_alone_314 [(9, .int iv5), (0, .ref (G.1 + al0)), (10, .int xl10)] (by decide) rfl ?_
    obtain ⟨iv6, eiv6⟩ : ∃ q : Int32, q = xl10 + (-1) := ⟨_, rfl⟩
    replace hw := hw iv6 eiv6
    refine r_iinc C dX12_alone_316 2 rfl (by rw [eiv6]; rfl) [(10, .int iv6), (9, .int iv5), (0, .ref (G.1 + al0))] (by decide) rfl ?_
    refine r_goto C dX12_alone_319 288 (by decide) ?_
    refine r_sub [2, 1, 0] rfl ?_
    exact hK288 _ _ _ _ hw
def wl_X12_alone_288  (post : AH → Int32 → Prop) : Nat → AH → Nat → Int32 → Int32 → Prop
  | 0 => fun _ _ _ _ => False
  | n + 1 => fun h al0 xl9 xl10 => wb_X12_alone_288  (wl_X12_alone_288  post n) h al0 xl9 xl10 post
theorem tl_X12_alone_288 {G : GG} {p : Program} {l : Launch} {e : Env} {R : Room} {s : State} {m : MethodId} {args : Array Value} {below : List Frame} {meth : Method} {c : Code} {n0 s0 : Nat} {post : AH → Int32 → Prop} (C : Cx G p R s m args meth c 13 cX12_alone RX12 n0 s0 4 98) (hr : meth.sig.returnType = (some .int))   : ∀ (n : Nat) (h : AH) (al0 : Nat) (xl9 : Int32) (xl10 : Int32), wl_X12_alone_288  post n h al0 xl9 xl10 → AW G p l e R s m args below meth c 13 (QM G (pI post) args s below n0 s0) 288 [(0, .ref (G.1 + al0)), (9, .int xl9), (10, .int xl10)] [] h := by
  intro n
  induction n with
  | zero => intro h al0 xl9 xl10 hw; exact hw.elim
  | succ n ih => intro h al0 xl9 xl10 hw; exact tb_X12_alone_288 C hr  ih hw
def wb_X12_alone_241 (K123 : AH → Nat → Int32 → Int32 → Int32 → Int32 → Int32 → Prop) (K142 : AH → Nat → Int32 → Int32 → Int32 → Int32 → Int32 → Int32 → Int32 → Prop) (h : AH) (al0 : Nat) (xl1 : Int32) (xl5 : Int32) (xl7 : Int32) (xl8 : Int32) (xl9 : Int32) (xl10 : Int32) (xl11 : Int32)  (post : AH → Int32 → Prop) : Prop := ∀ iv1 : Int32, iv1 = xl11 + 1 → (K142 h al0 xl1 xl5 xl7 xl8 xl9 xl10 iv1)
set_option maxRecDepth 100000 in
theorem tb_X12_alone_241 {G : GG} {p : Program} {l : Launch} {e : Env} {R : Room} {s : State} {m : MethodId} {args : Array Value} {below : List Frame} {meth : Method} {c : Code} {n0 s0 : Nat} {post : AH → Int32 → Prop} (C : Cx G p R s m args meth c 13 cX12_alone RX12 n0 s0 4 98) (hr : meth.sig.returnType = (some .int)) {K123 : AH → Nat → Int32 → Int32 → Int32 → Int32 → Int32 → Prop} {K142 : AH → Nat → Int32 → Int32 → Int32 → Int32 → Int32 → Int32 → Int32 → Prop} (hK123 : ∀ (h : AH) (al0 : Nat) (xl1 : Int32) (xl5 : Int32) (xl7 : Int32) (xl8 : Int32) (xl9 : Int32), K123 h al0 xl1 xl5 xl7 xl8 xl9 → AW G p l e R s m args below meth c 13 (QM G (pI post) args s below n0 s0) 123 [(0, .ref (G.1 + al0)), (1, .int xl1), (5, .int xl5), (7, .int xl7), (8, .int xl8), (9, .int xl9)] [] h) (hK142 : ∀ (h : AH) (al0 : Nat) (xl1 : Int32) (xl5 : Int32) (xl7 : Int32) (xl8 : Int32) (xl9 : Int32) (xl10 : Int32) (xl11 : Int32), K142 h al0 xl1 xl5 xl7 xl8 xl9 xl10 xl11 → AW G p l e R s m args below meth c 13 (QM G (pI post) args s below n0 s0) 142 [(0, .ref (G.1 + al0)), (1, .int xl1), (5, .int xl5), (7, .int xl7), (8, .int xl8), (9, .int xl9), (10, .int xl10), (11, .int xl11)] [] h) {h : AH} {al0 : Nat} {xl1 : Int32} {xl5 : Int32} {xl7 : Int32} {xl8 : Int32} {xl9 : Int32} {xl10 : Int32} {xl11 : Int32}  (hw : wb_X12_alone_241 K123 K142 h al0 xl1 xl5 xl7 xl8 xl9 xl10 xl11 post) : AW G p l e R s m args below meth c 13 (QM G (pI post) args s below n0 s0) 241 [(0, .ref (G.1 + al0)), (1, .int xl1), (5, .int xl5), (7, .int xl7), (8, .int xl8), (9, .int xl9), (10, .int xl10), (11, .int xl11)] [] h := by
  unfold wb_X12_alone_241 at hw
  obtain ⟨iv1, eiv1⟩ : ∃ q : Int32, q = xl11 + 1 := ⟨_, rfl⟩
  replace hw := hw iv1 eiv1
  refine r_iinc C dX12_alone_241 7 rfl (by rw [eiv1]; rfl) [(11, .int iv1), (0, .ref (G.1 + al0)), (1, .int xl1), (5, .int xl5), (7, .int xl7), (8, .int xl8), (9, .int xl9), (10, .int xl10)] (by decide) rfl ?_
  refine r_goto C dX12_alone_244 142 (by decide) ?_
  refine r_sub [1, 2, 3, 4, 5, 6, 7, 0] rfl ?_
  exact hK142 _ _ _ _ _ _ _ _ _ hw
def wb_X12_alone_142 (K123 : AH → Nat → Int32 → Int32 → Int32 → Int32 → Int32 → Prop) (K142 : AH → Nat → Int32 → Int32 → Int32 → Int32 → Int32 → Int32 → Int32 → Prop) (h : AH) (al0 : Nat) (xl1 : Int32) (xl5 : Int32) (xl7 : Int32) (xl8 : Int32) (xl9 : Int32) (xl10 : Int32) (xl11 : Int32)  (post : AH → Int32 → Prop) : Prop := (4 < xl11 → (∀ iv1 : Int32, iv1 = xl9 + 1 → (K123 h al0 xl1 xl5 xl7 xl8 iv1))) ∧ (¬ 4 < xl11 → ((ob h al0 11) ∧ wp_X12_putAt h al0 xl1 xl10 (fun hv2  => (ob hv2 al0 11) ∧ wp_X12_moves hv2 al0 xl1 xl11 xl5 (fun hv3 iv4 => (iv4 ≤ 0 → ((ob hv3 al0 11) ∧ wp_X12_place hv3 al0 xl1 (fun hv5 iv6 => (ob hv5 al0 11) ∧ (∃ rv7, aP hv5 al0 42 = some rv7 ∧ ((ob hv5 rv7 13) ∧ ((vp_in iv6 (aL hv5 rv7)) ∧ (((aI hv5 rv7 iv6.toNatClampNeg) < 0 → ((ob hv5 al0 11) ∧ (∃ rv8, aP hv5 al0 42 = some rv8 ∧ ((ob hv5 al0 11) ∧ (∃ rv9, aP hv5 al0 42 = some rv9 ∧ ((ob hv5 rv9 13) ∧ ((vp_in xl10 (aL hv5 rv9)) ∧ ((ob hv5 rv8 13) ∧ ((vp_in iv6 (aL hv5 rv8)) ∧ (∀ hv10 : AH, hv10 = hI hv5 rv8 iv6.toNatClampNeg ((aI hv5 rv9 xl10.toNatClampNeg) + (1 : Int32)) → ((ob hv10 al0 11) ∧ (∃ rv11, aP hv10 al0 43 = some rv11 ∧ ((ob hv10 rv11 13) ∧ ((vp_in iv6 (aL hv10 rv11)) ∧ (∀ hv12 : AH, hv12 = hI hv10 rv11 iv6.toNatClampNeg xl10 → ((ob hv12 al0 11) ∧ (∃ rv13, aP hv12 al0 44 = some rv13 ∧ ((ob hv12 rv13 13) ∧ ((vp_in iv6 (aL hv12 rv13)) ∧ (∀ hv14 : AH, hv14 = hI hv12 rv13 iv6.toNatClampNeg (((10 : Int32) * xl1) + xl11) → ((ob hv14 al0 11) ∧ (∃ rv15, aP hv14 al0 45 = some rv15 ∧ ((ob hv14 rv15 13) ∧ ((vp_in xl8 (aL hv14 rv15)) ∧ (∀ hv16 : AH, hv16 = hI hv14 rv15 xl8.toNatClampNeg iv6 → (∀ iv17 : Int32, iv17 = xl8 + 1 → (wb_X12_alone_241 K123 K142 hv16 al0 xl1 xl5 xl7 iv17 xl9 xl10 xl11 post))))))))))))))))))))))))))) ∧ (¬ (aI hv5 rv7 iv6.toNatClampNeg) < 0 → (wb_X12_alone_241 K123 K142 hv5 al0 xl1 xl5 xl7 xl8 xl9 xl10 xl11 post))))))))) ∧ (¬ iv4 ≤ 0 → (wb_X12_alone_241 K123 K142 hv3 al0 xl1 xl5 xl7 xl8 xl9 xl10 xl11 post))))))
set_option maxRecDepth 100000 in
theorem tb_X12_alone_142 {G : GG} {p : Program} {l : Launch} {e : Env} {R : Room} {s : State} {m : MethodId} {args : Array Value} {below : List Frame} {meth : Method} {c : Code} {n0 s0 : Nat} {post : AH → Int32 → Prop} (C : Cx G p R s m args meth c 13 cX12_alone RX12 n0 s0 4 98) (hr : meth.sig.returnType = (some .int)) {K123 : AH → Nat → Int32 → Int32 → Int32 → Int32 → Int32 → Prop} {K142 : AH → Nat → Int32 → Int32 → Int32 → Int32 → Int32 → Int32 → Int32 → Prop} (hK123 : ∀ (h : AH) (al0 : Nat) (xl1 : Int32) (xl5 : Int32) (xl7 : Int32) (xl8 : Int32) (xl9 : Int32), K123 h al0 xl1 xl5 xl7 xl8 xl9 → AW G p l e R s m args below meth c 13 (QM G (pI post) args s below n0 s0) 123 [(0, .ref (G.1 + al0)), (1, .int xl1), (5, .int xl5), (7, .int xl7), (8, .int xl8), (9, .int xl9)] [] h) (hK142 : ∀ (h : AH) (al0 : Nat) (xl1 : Int32) (xl5 : Int32) (xl7 : Int32) (xl8 : Int32) (xl9 : Int32) (xl10 : Int32) (xl11 : Int32), K142 h al0 xl1 xl5 xl7 xl8 xl9 xl10 xl11 → AW G p l e R s m args below meth c 13 (QM G (pI post) args s below n0 s0) 142 [(0, .ref (G.1 + al0)), (1, .int xl1), (5, .int xl5), (7, .int xl7), (8, .int xl8), (9, .int xl9), (10, .int xl10), (11, .int xl11)] [] h) {h : AH} {al0 : Nat} {xl1 : Int32} {xl5 : Int32} {xl7 : Int32} {xl8 : Int32} {xl9 : Int32} {xl10 : Int32} {xl11 : Int32}  (hw : wb_X12_alone_142 K123 K142 h al0 xl1 xl5 xl7 xl8 xl9 xl10 xl11 post) : AW G p l e R s m args below meth c 13 (QM G (pI post) args s below n0 s0) 142 [(0, .ref (G.1 + al0)), (1, .int xl1), (5, .int xl5), (7, .int xl7), (8, .int xl8), (9, .int xl9), (10, .int xl10), (11, .int xl11)] [] h := by
  unfold wb_X12_alone_142 at hw
  refine r_iload C dX12_alone_142 7 rfl ?_
  refine r_iconst (v := 4) C dX12_alone_144 (by decide) ?_
  refine r_icmp_gt C dX12_alone_145 247 (by decide) (fun hc => ?_) (fun hc => ?_)
  · replace hw := hw.1 hc
    obtain ⟨iv1, eiv1⟩ : ∃ q : Int32, q = xl9 + 1 := ⟨_, rfl⟩
    replace hw := hw iv1 eiv1
    refine r_iinc C dX12_alone_247 5 rfl (by rw [eiv1]; rfl) [(9, .int iv1), (0, .ref (G.1 + al0)), (1, .int xl1), (5, .int xl5), (7, .int xl7), (8, .int xl8), (10, .int xl10), (11, .int xl11)] (by decide) rfl ?_
    refine r_goto C dX12_alone_250 123 (by decide) ?_
    refine r_sub [1, 2, 3, 4, 5, 0] rfl ?_
    exact hK123 _ _ _ _ _ _ _ hw
  · replace hw := hw.2 hc
    refine r_aload_n C dX12_alone_148 0 rfl ?_
    refine r_iload_n C dX12_alone_149 1 rfl ?_
    refine r_iload C dX12_alone_150 6 rfl ?_
    have hob := hw.1
    replace hw := hw.2
    refine r_callV C (As := [.int xl1, .int xl10]) (rest := []) (c_X12_putAt G h al0 xl1 xl10 _ hw) yl_X12_putAt (gm9 (List.mem_of_getElem? (i := 13) rfl) rfl) (gm9 (List.mem_of_getElem? (i := 15) rfl) rfl) (ci := 11) rfl (by decide) (gsel (List.mem_of_getElem? (i := 99) rfl)) hob (by decide) rfl (Nat.le_of_ble_eq_true rfl) dX12_alone_152 rfl (kV fun hv2  hw => ?_)
    refine r_aload_n C dX12_alone_155 0 rfl ?_
    refine r_iload_n C dX12_alone_156 1 rfl ?_
    refine r_iload C dX12_alone_157 7 rfl ?_
    refine r_iload C dX12_alone_159 2 rfl ?_
    have hob := hw.1
    replace hw := hw.2
    refine r_callV C (As := [.int xl1, .int xl11, .int xl5]) (rest := []) (c_X12_moves G hv2 al0 xl1 xl11 xl5 _ hw) yl_X12_moves (gm8 (List.mem_of_getElem? (i := 125) rfl) rfl) (gm8 (List.mem_of_getElem? (i := 127) rfl) rfl) (ci := 11) rfl (by decide) (gsel (List.mem_of_getElem? (i := 80) rfl)) hob (by decide) rfl (Nat.le_of_ble_eq_true rfl) dX12_alone_161 rfl (kI fun hv3 iv4 hw => ?_)
    refine r_if_le C dX12_alone_164 170 (by decide) (fun hc => ?_) (fun hc => ?_)
    · replace hw := hw.1 hc
      refine r_aload_n C dX12_alone_170 0 rfl ?_
      refine r_iload_n C dX12_alone_171 1 rfl ?_
      have hob := hw.1
      replace hw := hw.2
      refine r_callV C (As := [.int xl1]) (rest := []) (c_X12_place G hv3 al0 xl1 _ hw) yl_X12_place (gm9 (List.mem_of_getElem? (i := 5) rfl) rfl) (gm9 (List.mem_of_getElem? (i := 7) rfl) rfl) (ci := 11) rfl (by decide) (gsel (List.mem_of_getElem? (i := 97) rfl)) hob (by decide) rfl (Nat.le_of_ble_eq_true rfl) dX12_alone_172 rfl (kI fun hv5 iv6 hw => ?_)
      refine r_istore C dX12_alone_175 [(12, .int iv6), (0, .ref (G.1 + al0)), (1, .int xl1), (5, .int xl5), (7, .int xl7), (8, .int xl8), (9, .int xl9), (10, .int xl10), (11, .int xl11)] (by decide) rfl ?_
      refine r_aload_n C dX12_alone_177 1 rfl ?_
      have hob := hw.1
      obtain ⟨rv7, hp, hw⟩ := hw.2
      refine r_getP C fl_RX12_84_11 hob hp (fun _ _ _ => rfl) dX12_alone_178 ?_
      refine r_iload C dX12_alone_181 0 rfl ?_
      refine r_iaload C hw.1 hw.2.1 dX12_alone_183 ?_
      replace hw := hw.2.2
      refine r_if_lt C dX12_alone_184 190 (by decide) (fun hc => ?_) (fun hc => ?_)
      · replace hw := hw.1 hc
        refine r_aload_n C dX12_alone_190 1 rfl ?_
        have hob := hw.1
        obtain ⟨rv8, hp, hw⟩ := hw.2
        refine r_getP C fl_RX12_84_11 hob hp (fun _ _ _ => rfl) dX12_alone_191 ?_
        refine r_iload C dX12_alone_194 0 rfl ?_
        refine r_aload_n C dX12_alone_196 1 rfl ?_
        have hob := hw.1
        obtain ⟨rv9, hp, hw⟩ := hw.2
        refine r_getP C fl_RX12_84_11 hob hp (fun _ _ _ => rfl) dX12_alone_197 ?_
        refine r_iload C dX12_alone_200 7 rfl ?_
        refine r_iaload C hw.1 hw.2.1 dX12_alone_202 ?_
        replace hw := hw.2.2
        refine r_iconst (v := 1) C dX12_alone_203 (by decide) ?_
        refine r_iadd C dX12_alone_204 ?_
        refine r_iastore C hw.1 hw.2.1 dX12_alone_205 ?_
        replace hw := hw.2.2
        refine r_toph fun hv10 ehv10 => ?_
        replace hw := hw hv10 ehv10
        refine r_aload_n C dX12_alone_206 1 rfl ?_
        have hob := hw.1
        obtain ⟨rv11, hp, hw⟩ := hw.2
        refine r_getP C fl_RX12_87_11 hob hp (fun _ _ _ => rfl) dX12_alone_207 ?_
        refine r_iload C dX12_alone_210 0 rfl ?_
        refine r_iload C dX12_alone_212 7 rfl ?_
        refine r_iastore C hw.1 hw.2.1 dX12_alone_214 ?_
        replace hw := hw.2.2
        refine r_toph fun hv12 ehv12 => ?_
        replace hw := hw hv12 ehv12
        refine r_aload_n C dX12_alone_215 1 rfl ?_
        have hob := hw.1
        obtain ⟨rv13, hp, hw⟩ := hw.2
        refine r_getP C fl_RX12_90_11 hob hp (fun _ _ _ => rfl) dX12_alone_216 ?_
        refine r_iload C dX12_alone_219 0 rfl ?_
        refine r_bipush (v := 10) C dX12_alone_221 (by decide) ?_
        refine r_iload_n C dX12_alone_223 2 rfl ?_
        refine r_imul C dX12_alone_224 ?_
        refine r_iload C dX12_alone_225 8 rfl ?_
        refine r_iadd C dX12_alone_227 ?_
        refine r_iastore C hw.1 hw.2.1 dX12_alone_228 ?_
        replace hw := hw.2.2
        refine r_toph fun hv14 ehv14 => ?_
        replace hw := hw hv14 ehv14
        refine r_aload_n C dX12_alone_229 1 rfl ?_
        have hob := hw.1
        obtain ⟨rv15, hp, hw⟩ := hw.2
        refine r_getP C fl_RX12_93_11 hob hp (fun _ _ _ => rfl) dX12_alone_230 ?_
        refine r_iload C dX12_alone_233 5 rfl ?_
        refine r_iload C dX12_alone_235 0 rfl ?_
        refine r_iastore C hw.1 hw.2.1 dX12_alone_237 ?_
        replace hw := hw.2.2
        refine r_toph fun hv16 ehv16 => ?_
        replace hw := hw hv16 ehv16
        obtain ⟨iv17, eiv17⟩ : ∃ q : Int32, q = xl8 + 1 := ⟨_, rfl⟩
        replace hw := hw iv17 eiv17
        refine r_iinc C dX12_alone_238 5 rfl (by rw [eiv17]; rfl) [(8, .int iv17), (12, .int iv6), (0, .ref (G.1 + al0)), (1, .int xl1), (5, .int xl5), (7, .int xl7), (9, .int xl9), (10, .int xl10), (11, .int xl11)] (by decide) rfl ?_
        refine r_sub [2, 3, 4, 5, 0, 6, 7, 8] rfl ?_
        exact tb_X12_alone_241 C hr hK123 hK142 hw
      · replace hw := hw.2 hc
        refine r_goto C dX12_alone_187 241 (by decide) ?_
        refine r_sub [1, 2, 3, 4, 5, 6, 7, 8] rfl ?_
        exact tb_X12_alone_241 C hr hK123 hK142 hw
    · replace hw := hw.2 hc
      refine r_goto C dX12_alone_167 241 (by decide) ?_
      refine r_sub [0, 1, 2, 3, 4, 5, 6, 7] rfl ?_
      exact tb_X12_alone_241 C hr hK123 hK142 hw
def wl_X12_alone_142 (K123 : AH → Nat → Int32 → Int32 → Int32 → Int32 → Int32 → Prop) (post : AH → Int32 → Prop) : Nat → AH → Nat → Int32 → Int32 → Int32 → Int32 → Int32 → Int32 → Int32 → Prop
  | 0 => fun _ _ _ _ _ _ _ _ _ => False
  | n + 1 => fun h al0 xl1 xl5 xl7 xl8 xl9 xl10 xl11 => wb_X12_alone_142 K123 (wl_X12_alone_142 K123 post n) h al0 xl1 xl5 xl7 xl8 xl9 xl10 xl11 post
theorem tl_X12_alone_142 {G : GG} {p : Program} {l : Launch} {e : Env} {R : Room} {s : State} {m : MethodId} {args : Array Value} {below : List Frame} {meth : Method} {c : Code} {n0 s0 : Nat} {post : AH → Int32 → Prop} (C : Cx G p R s m args meth c 13 cX12_alone RX12 n0 s0 4 98) (hr : meth.sig.returnType = (some .int)) {K123 : AH → Nat → Int32 → Int32 → Int32 → Int32 → Int32 → Prop} (hK123 : ∀ (h : AH) (al0 : Nat) (xl1 : Int32) (xl5 : Int32) (xl7 : Int32) (xl8 : Int32) (xl9 : Int32), K123 h al0 xl1 xl5 xl7 xl8 xl9 → AW G p l e R s m args below meth c 13 (QM G (pI post) args s below n0 s0) 123 [(0, .ref (G.1 + al0)), (1, .int xl1), (5, .int xl5), (7, .int xl7), (8, .int xl8), (9, .int xl9)] [] h) : ∀ (n : Nat) (h : AH) (al0 : Nat) (xl1 : Int32) (xl5 : Int32) (xl7 : Int32) (xl8 : Int32) (xl9 : Int32) (xl10 : Int32) (xl11 : Int32), wl_X12_alone_142 K123 post n h al0 xl1 xl5 xl7 xl8 xl9 xl10 xl11 → AW G p l e R s m args below meth c 13 (QM G (pI post) args s below n0 s0) 142 [(0, .ref (G.1 + al0)), (1, .int xl1), (5, .int xl5), (7, .int xl7), (8, .int xl8), (9, .int xl9), (10, .int xl10), (11, .int xl11)] [] h := by
  intro n
  induction n with
  | zero => intro h al0 xl1 xl5 xl7 xl8 xl9 xl10 xl11 hw; exact hw.elim
  | succ n ih => intro h al0 xl1 xl5 xl7 xl8 xl9 xl10 xl11 hw; exact tb_X12_alone_142 C hr hK123 ih hw
def wb_X12_alone_123 (K123 : AH → Nat → Int32 → Int32 → Int32 → Int32 → Int32 → Prop) (h : AH) (al0 : Nat) (xl1 : Int32) (xl5 : Int32) (xl7 : Int32) (xl8 : Int32) (xl9 : Int32)  (post : AH → Int32 → Prop) : Prop := (xl8 ≤ xl9 → ((ob h al0 11) ∧ (∃ rv1, aP h al0 42 = some rv1 ∧ ((ob h rv1 13) ∧ ((vp_in xl7 (aL h rv1)) ∧ ((0 ≤ (aI h rv1 xl7.toNatClampNeg) → ((ob h al0 11) ∧ (∃ rv2, aP h al0 42 = some rv2 ∧ ((ob h rv2 13) ∧ ((vp_in xl7 (aL h rv2)) ∧ ((ob h al0 11) ∧ (∀ hv3 : AH, hv3 = hI h al0 40 (aI h rv2 xl7.toNatClampNeg) → ((ob hv3 al0 11) ∧ (∀ iv4 : Int32, iv4 = (aI hv3 al0 40) - (1 : Int32) → (∃ n, wl_X12_alone_288  post n hv3 al0 xl7 iv4)))))))))) ∧ (¬ 0 ≤ (aI h rv1 xl7.toNatClampNeg) → (post h (-1))))))))) ∧ (¬ xl8 ≤ xl9 → ((ob h al0 11) ∧ (∃ rv5, aP h al0 45 = some rv5 ∧ ((ob h rv5 13) ∧ ((vp_in xl9 (aL h rv5)) ∧ (∀ iv6 : Int32, iv6 = aI h rv5 xl9.toNatClampNeg → (∃ n, wl_X12_alone_142 K123 post n h al0 xl1 xl5 xl7 xl8 xl9 iv6 0)))))))
set_option maxRecDepth 100000 in
theorem tb_X12_alone_123 {G : GG} {p : Program} {l : Launch} {e : Env} {R : Room} {s : State} {m : MethodId} {args : Array Value} {below : List Frame} {meth : Method} {c : Code} {n0 s0 : Nat} {post : AH → Int32 → Prop} (C : Cx G p R s m args meth c 13 cX12_alone RX12 n0 s0 4 98) (hr : meth.sig.returnType = (some .int)) {K123 : AH → Nat → Int32 → Int32 → Int32 → Int32 → Int32 → Prop} (hK123 : ∀ (h : AH) (al0 : Nat) (xl1 : Int32) (xl5 : Int32) (xl7 : Int32) (xl8 : Int32) (xl9 : Int32), K123 h al0 xl1 xl5 xl7 xl8 xl9 → AW G p l e R s m args below meth c 13 (QM G (pI post) args s below n0 s0) 123 [(0, .ref (G.1 + al0)), (1, .int xl1), (5, .int xl5), (7, .int xl7), (8, .int xl8), (9, .int xl9)] [] h) {h : AH} {al0 : Nat} {xl1 : Int32} {xl5 : Int32} {xl7 : Int32} {xl8 : Int32} {xl9 : Int32}  (hw : wb_X12_alone_123 K123 h al0 xl1 xl5 xl7 xl8 xl9 post) : AW G p l e R s m args below meth c 13 (QM G (pI post) args s below n0 s0) 123 [(0, .ref (G.1 + al0)), (1, .int xl1), (5, .int xl5), (7, .int xl7), (8, .int xl8), (9, .int xl9)] [] h := by
  unfold wb_X12_alone_123 at hw
  refine r_iload C dX12_alone_123 5 rfl ?_
  refine r_iload C dX12_alone_125 4 rfl ?_
  refine r_icmp_ge C dX12_alone_127 253 (by decide) (fun hc => ?_) (fun hc => ?_)
  · replace hw := hw.1 hc
    refine r_aload_n C dX12_alone_253 0 rfl ?_
    have hob := hw.1
    obtain ⟨rv1, hp, hw⟩ := hw.2
    refine r_getP C fl_RX12_84_11 hob hp (fun _ _ _ => rfl) dX12_alone_254 ?_
    refine r_iload C dX12_alone_257 3 rfl ?_
    refine r_iaload C hw.1 hw.2.1 dX12_alone_259 ?_
    replace hw := hw.2.2
    refine r_if_ge C dX12_alone_260 265 (by decide) (fun hc => ?_) (fun hc => ?_)
    · replace hw := hw.1 hc
      refine r_aload_n C dX12_alone_265 0 rfl ?_
      refine r_aload_n C dX12_alone_266 0 rfl ?_
      have hob := hw.1
      obtain ⟨rv2, hp, hw⟩ := hw.2
      refine r_getP C fl_RX12_84_11 hob hp (fun _ _ _ => rfl) dX12_alone_267 ?_
      refine r_iload C dX12_alone_270 3 rfl ?_
      refine r_iaload C hw.1 hw.2.1 dX12_alone_272 ?_
      replace hw := hw.2.2
      refine r_putI C fp_RX12_408_11 hw.1 rfl dX12_alone_273 ?_
      replace hw := hw.2
      refine r_toph fun hv3 ehv3 => ?_
      replace hw := hw hv3 ehv3
      refine r_iload C dX12_alone_276 3 rfl ?_
      refine r_istore C dX12_alone_278 [(9, .int xl7), (0, .ref (G.1 + al0)), (1, .int xl1), (5, .int xl5), (7, .int xl7), (8, .int xl8)] (by decide) rfl ?_
      refine r_aload_n C dX12_alone_280 1 rfl ?_
      refine r_getI C fl_RX12_408_11 hw.1 (fun _ _ _ => rfl) dX12_alone_281 ?_
      replace hw := hw.2
      refine r_iconst (v := 1) C dX12_alone_284 (by decide) ?_
      refine r_isub C dX12_alone_285 ?_
      refine r_topi fun iv4 eiv4 => ?_
      replace hw := hw iv4 eiv4
      refine r_istore C dX12_alone_286 [(10, .int iv4), (9, .int xl7), (0, .ref (G.1 + al0)), (1, .int xl1), (5, .int xl5), (7, .int xl7), (8, .int xl8)] (by decide) rfl ?_
      refine r_sub [2, 1, 0] rfl ?_
      obtain ⟨n, hw⟩ := hw
      exact tl_X12_alone_288 C hr  n _ _ _ _ hw
    · replace hw := hw.2 hc
      refine r_iconst (v := (-1)) C dX12_alone_263 (by decide) ?_
      exact r_iret C hr dX12_alone_264 hw
  · replace hw := hw.2 hc
    refine r_aload_n C dX12_alone_130 0 rfl ?_
    have hob := hw.1
    obtain ⟨rv5, hp, hw⟩ := hw.2
    refine r_getP C fl_RX12_93_11 hob hp (fun _ _ _ => rfl) dX12_alone_131 ?_
    refine r_iload C dX12_alone_134 5 rfl ?_
    refine r_iaload C hw.1 hw.2.1 dX12_alone_136 ?_
    replace hw := hw.2.2
    refine r_topi fun iv6 eiv6 => ?_
    replace hw := hw iv6 eiv6
    refine r_istore C dX12_alone_137 [(10, .int iv6), (0, .ref (G.1 + al0)), (1, .int xl1), (5, .int xl5), (7, .int xl7), (8, .int xl8), (9, .int xl9)] (by decide) rfl ?_
    refine r_iconst (v := 0) C dX12_alone_139 (by decide) ?_
    refine r_istore C dX12_alone_140 [(11, .int 0), (10, .int iv6), (0, .ref (G.1 + al0)), (1, .int xl1), (5, .int xl5), (7, .int xl7), (8, .int xl8), (9, .int xl9)] (by decide) rfl ?_
    refine r_sub [2, 3, 4, 5, 6, 7, 1, 0] rfl ?_
    obtain ⟨n, hw⟩ := hw
    exact tl_X12_alone_142 C hr hK123 n _ _ _ _ _ _ _ _ _ hw
def wl_X12_alone_123  (post : AH → Int32 → Prop) : Nat → AH → Nat → Int32 → Int32 → Int32 → Int32 → Int32 → Prop
  | 0 => fun _ _ _ _ _ _ _ => False
  | n + 1 => fun h al0 xl1 xl5 xl7 xl8 xl9 => wb_X12_alone_123  (wl_X12_alone_123  post n) h al0 xl1 xl5 xl7 xl8 xl9 post
theorem tl_X12_alone_123 {G : GG} {p : Program} {l : Launch} {e : Env} {R : Room} {s : State} {m : MethodId} {args : Array Value} {below : List Frame} {meth : Method} {c : Code} {n0 s0 : Nat} {post : AH → Int32 → Prop} (C : Cx G p R s m args meth c 13 cX12_alone RX12 n0 s0 4 98) (hr : meth.sig.returnType = (some .int))   : ∀ (n : Nat) (h : AH) (al0 : Nat) (xl1 : Int32) (xl5 : Int32) (xl7 : Int32) (xl8 : Int32) (xl9 : Int32), wl_X12_alone_123  post n h al0 xl1 xl5 xl7 xl8 xl9 → AW G p l e R s m args below meth c 13 (QM G (pI post) args s below n0 s0) 123 [(0, .ref (G.1 + al0)), (1, .int xl1), (5, .int xl5), (7, .int xl7), (8, .int xl8), (9, .int xl9)] [] h := by
  intro n
  induction n with
  | zero => intro h al0 xl1 xl5 xl7 xl8 xl9 hw; exact hw.elim
  | succ n ih => intro h al0 xl1 xl5 xl7 xl8 xl9 hw; exact tb_X12_alone_123 C hr  ih hw
def wb_X12_alone_79 (K79 : AH → Nat → Int32 → Int32 → Int32 → Int32 → Int32 → Prop) (h : AH) (al0 : Nat) (xl1 : Int32) (xl5 : Int32) (xl6 : Int32) (xl7 : Int32) (xl8 : Int32)  (post : AH → Int32 → Prop) : Prop := (128 ≤ xl8 → ((ob h al0 11) ∧ (∃ rv1, aP h al0 42 = some rv1 ∧ ((ob h rv1 13) ∧ ((vp_in xl6 (aL h rv1)) ∧ (∀ hv2 : AH, hv2 = hI h rv1 xl6.toNatClampNeg 0 → ((ob hv2 al0 11) ∧ (∃ rv3, aP hv2 al0 45 = some rv3 ∧ ((ob hv2 rv3 13) ∧ ((vp_in 0 (aL hv2 rv3)) ∧ (∀ hv4 : AH, hv4 = hI hv2 rv3 (0 : Int32).toNatClampNeg xl6 → (∃ n, wl_X12_alone_123  post n hv4 al0 xl1 xl5 xl7 1 0)))))))))))) ∧ (¬ 128 ≤ xl8 → ((ob h al0 11) ∧ (∃ rv5, aP h al0 42 = some rv5 ∧ ((ob h rv5 13) ∧ ((vp_in xl8 (aL h rv5)) ∧ (∀ hv6 : AH, hv6 = hI h rv5 xl8.toNatClampNeg (-1) → (∀ iv7 : Int32, iv7 = xl8 + 1 → (K79 hv6 al0 xl1 xl5 xl6 xl7 iv7))))))))
set_option maxRecDepth 100000 in
theorem tb_X12_alone_79 {G : GG} {p : Program} {l : Launch} {e : Env} {R : Room} {s : State} {m : MethodId} {args : Array Value} {below : List Frame} {meth : Method} {c : Code} {n0 s0 : Nat} {post : AH → Int32 → Prop} (C : Cx G p R s m args meth c 13 cX12_alone RX12 n0 s0 4 98) (hr : meth.sig.returnType = (some .int)) {K79 : AH → Nat → Int32 → Int32 → Int32 → Int32 → Int32 → Prop} (hK79 : ∀ (h : AH) (al0 : Nat) (xl1 : Int32) (xl5 : Int32) (xl6 : Int32) (xl7 : Int32) (xl8 : Int32), K79 h al0 xl1 xl5 xl6 xl7 xl8 → AW G p l e R s m args below meth c 13 (QM G (pI post) args s below n0 s0) 79 [(0, .ref (G.1 + al0)), (1, .int xl1), (5, .int xl5), (6, .int xl6), (7, .int xl7), (8, .int xl8)] [] h) {h : AH} {al0 : Nat} {xl1 : Int32} {xl5 : Int32} {xl6 : Int32} {xl7 : Int32} {xl8 : Int32}  (hw : wb_X12_alone_79 K79 h al0 xl1 xl5 xl6 xl7 xl8 post) : AW G p l e R s m args below meth c 13 (QM G (pI post) args s below n0 s0) 79 [(0, .ref (G.1 + al0)), (1, .int xl1), (5, .int xl5), (6, .int xl6), (7, .int xl7), (8, .int xl8)] [] h := by
  unfold wb_X12_alone_79 at hw
  refine r_iload C dX12_alone_79 5 rfl ?_
  refine r_sipush (v := 128) C dX12_alone_81 (by decide) ?_
  refine r_icmp_ge C dX12_alone_84 101 (by decide) (fun hc => ?_) (fun hc => ?_)
  · replace hw := hw.1 hc
    refine r_aload_n C dX12_alone_101 0 rfl ?_
    have hob := hw.1
    obtain ⟨rv1, hp, hw⟩ := hw.2
    refine r_getP C fl_RX12_84_11 hob hp (fun _ _ _ => rfl) dX12_alone_102 ?_
    refine r_iload C dX12_alone_105 3 rfl ?_
    refine r_iconst (v := 0) C dX12_alone_107 (by decide) ?_
    refine r_iastore C hw.1 hw.2.1 dX12_alone_108 ?_
    replace hw := hw.2.2
    refine r_toph fun hv2 ehv2 => ?_
    replace hw := hw hv2 ehv2
    refine r_aload_n C dX12_alone_109 0 rfl ?_
    have hob := hw.1
    obtain ⟨rv3, hp, hw⟩ := hw.2
    refine r_getP C fl_RX12_93_11 hob hp (fun _ _ _ => rfl) dX12_alone_110 ?_
    refine r_iconst (v := 0) C dX12_alone_113 (by decide) ?_
    refine r_iload C dX12_alone_114 3 rfl ?_
    refine r_iastore C hw.1 hw.2.1 dX12_alone_116 ?_
    replace hw := hw.2.2
    refine r_toph fun hv4 ehv4 => ?_
    replace hw := hw hv4 ehv4
    refine r_iconst (v := 1) C dX12_alone_117 (by decide) ?_
    refine r_istore C dX12_alone_118 [(8, .int 1), (0, .ref (G.1 + al0)), (1, .int xl1), (5, .int xl5), (6, .int xl6), (7, .int xl7)] (by decide) rfl ?_
    refine r_iconst (v := 0) C dX12_alone_120 (by decide) ?_
    refine r_istore C dX12_alone_121 [(9, .int 0), (8, .int 1), (0, .ref (G.1 + al0)), (1, .int xl1), (5, .int xl5), (6, .int xl6), (7, .int xl7)] (by decide) rfl ?_
    refine r_sub [2, 3, 4, 6, 1, 0] rfl ?_
    obtain ⟨n, hw⟩ := hw
    exact tl_X12_alone_123 C hr  n _ _ _ _ _ _ _ hw
  · replace hw := hw.2 hc
    refine r_aload_n C dX12_alone_87 0 rfl ?_
    have hob := hw.1
    obtain ⟨rv5, hp, hw⟩ := hw.2
    refine r_getP C fl_RX12_84_11 hob hp (fun _ _ _ => rfl) dX12_alone_88 ?_
    refine r_iload C dX12_alone_91 5 rfl ?_
    refine r_iconst (v := (-1)) C dX12_alone_93 (by decide) ?_
    refine r_iastore C hw.1 hw.2.1 dX12_alone_94 ?_
    replace hw := hw.2.2
    refine r_toph fun hv6 ehv6 => ?_
    replace hw := hw hv6 ehv6
    obtain ⟨iv7, eiv7⟩ : ∃ q : Int32, q = xl8 + 1 := ⟨_, rfl⟩
    replace hw := hw iv7 eiv7
    refine r_iinc C dX12_alone_95 5 rfl (by rw [eiv7]; rfl) [(8, .int iv7), (0, .ref (G.1 + al0)), (1, .int xl1), (5, .int xl5), (6, .int xl6), (7, .int xl7)] (by decide) rfl ?_
    refine r_goto C dX12_alone_98 79 (by decide) ?_
    refine r_sub [1, 2, 3, 4, 5, 0] rfl ?_
    exact hK79 _ _ _ _ _ _ _ hw
def wl_X12_alone_79  (post : AH → Int32 → Prop) : Nat → AH → Nat → Int32 → Int32 → Int32 → Int32 → Int32 → Prop
  | 0 => fun _ _ _ _ _ _ _ => False
  | n + 1 => fun h al0 xl1 xl5 xl6 xl7 xl8 => wb_X12_alone_79  (wl_X12_alone_79  post n) h al0 xl1 xl5 xl6 xl7 xl8 post
theorem tl_X12_alone_79 {G : GG} {p : Program} {l : Launch} {e : Env} {R : Room} {s : State} {m : MethodId} {args : Array Value} {below : List Frame} {meth : Method} {c : Code} {n0 s0 : Nat} {post : AH → Int32 → Prop} (C : Cx G p R s m args meth c 13 cX12_alone RX12 n0 s0 4 98) (hr : meth.sig.returnType = (some .int))   : ∀ (n : Nat) (h : AH) (al0 : Nat) (xl1 : Int32) (xl5 : Int32) (xl6 : Int32) (xl7 : Int32) (xl8 : Int32), wl_X12_alone_79  post n h al0 xl1 xl5 xl6 xl7 xl8 → AW G p l e R s m args below meth c 13 (QM G (pI post) args s below n0 s0) 79 [(0, .ref (G.1 + al0)), (1, .int xl1), (5, .int xl5), (6, .int xl6), (7, .int xl7), (8, .int xl8)] [] h := by
  intro n
  induction n with
  | zero => intro h al0 xl1 xl5 xl6 xl7 xl8 hw; exact hw.elim
  | succ n ih => intro h al0 xl1 xl5 xl6 xl7 xl8 hw; exact tb_X12_alone_79 C hr  ih hw
def wp_X12_alone (h : AH) (a0 : Nat) (x1 : Int32) (x2 : Int32) (x3 : Int32) (x4 : Int32) (x5 : Int32) (post : AH → Int32 → Prop) : Prop := (ob h a0 11) ∧ (∀ hv1 : AH, hv1 = hI h a0 0 0 → ((ob hv1 a0 11) ∧ wp_X12_isRaft hv1 a0 x1 (fun hv2 iv3 => (iv3 = 0 → (post hv2 (-2))) ∧ (¬ iv3 = 0 → ((ob hv2 a0 11) ∧ wp_X12_isCell hv2 a0 x2 x3 (fun hv4 iv5 => (iv5 = 0 → (post hv4 (-2))) ∧ (¬ iv5 = 0 → (wp_X12_isIn hv4 x4 0 1 (fun hv6 iv7 => (iv7 = 0 → (post hv6 (-2))) ∧ (¬ iv7 = 0 → (wp_X12_isHour hv6 x5 (fun hv8 iv9 => (¬ iv9 = 0 → ((ob hv8 a0 11) ∧ wp_X12_asItIs hv8 a0  (fun hv10  => (ob hv10 a0 11) ∧ wp_X12_place hv10 a0 x1 (fun hv11 iv12 => (ob hv11 a0 11) ∧ wp_X12_lays hv11 a0 x1 x2 x3 x4 (fun hv13 iv14 => (¬ iv14 = 0 → ((ob hv13 a0 11) ∧ wp_X12_place hv13 a0 x1 (fun hv15 iv16 => ∃ n, wl_X12_alone_79  post n hv15 a0 x1 x5 iv12 iv16 0))) ∧ (iv14 = 0 → (post hv13 (-2)))))))) ∧ (iv9 = 0 → (post hv8 (-2)))))))))))))))
set_option maxRecDepth 100000 in
theorem c_X12_alone (G : GG) (h : AH) (a0 : Nat) (x1 : Int32) (x2 : Int32) (x3 : Int32) (x4 : Int32) (x5 : Int32) (post : AH → Int32 → Prop) (hw : wp_X12_alone h a0 x1 x2 x3 x4 x5 post) : MC G yX12_alone cX12_alone 13 (some .int) 4 98 h [.ref (G.1 + a0), .int x1, .int x2, .int x3, .int x4, .int x5] (pI post) := by
  refine MC.of (lv := [(0, .ref (G.1 + a0)), (1, .int x1), (2, .int x2), (3, .int x3), (4, .int x4), (5, .int x5)]) (by decide) (Nat.le_of_ble_eq_true rfl) rfl fun p l e R s m args below meth c C hr hnm => ?_
  unfold wp_X12_alone at hw
  refine r_aload_n C dX12_alone_0 0 rfl ?_
  refine r_iconst (v := 0) C dX12_alone_1 (by decide) ?_
  refine r_putI C fp_RX12_1_11 hw.1 rfl dX12_alone_2 ?_
  replace hw := hw.2
  refine r_toph fun hv1 ehv1 => ?_
  replace hw := hw hv1 ehv1
  refine r_aload_n C dX12_alone_5 0 rfl ?_
  refine r_iload_n C dX12_alone_6 1 rfl ?_
  have hob := hw.1
  replace hw := hw.2
  refine r_callV C (As := [.int x1]) (rest := []) (c_X12_isRaft G hv1 a0 x1 _ hw) yl_X12_isRaft (gm8 (List.mem_of_getElem? (i := 49) rfl) rfl) (gm8 (List.mem_of_getElem? (i := 51) rfl) rfl) (ci := 11) rfl (by decide) (gsel (List.mem_of_getElem? (i := 68) rfl)) hob (by decide) rfl (Nat.le_of_ble_eq_true rfl) dX12_alone_7 rfl (kI fun hv2 iv3 hw => ?_)
  refine r_if_eq C dX12_alone_10 40 (by decide) (fun hc => ?_) (fun hc => ?_)
  · replace hw := hw.1 hc
    refine r_bipush (v := (-2)) C dX12_alone_40 (by decide) ?_
    exact r_iret C hr dX12_alone_42 hw
  · replace hw := hw.2 hc
    refine r_aload_n C dX12_alone_13 0 rfl ?_
    refine r_iload_n C dX12_alone_14 2 rfl ?_
    refine r_iload_n C dX12_alone_15 3 rfl ?_
    have hob := hw.1
    replace hw := hw.2
    refine r_callV C (As := [.int x2, .int x3]) (rest := []) (c_X12_isCell G hv2 a0 x2 x3 _ hw) yl_X12_isCell (gm8 (List.mem_of_getElem? (i := 34) rfl) rfl) (gm8 (List.mem_of_getElem? (i := 36) rfl) rfl) (ci := 11) rfl (by decide) (gsel (List.mem_of_getElem? (i := 66) rfl)) hob (by decide) rfl (Nat.le_of_ble_eq_true rfl) dX12_alone_16 rfl (kI fun hv4 iv5 hw => ?_)
    refine r_if_eq C dX12_alone_19 40 (by decide) (fun hc => ?_) (fun hc => ?_)
    · replace hw := hw.1 hc
      refine r_bipush (v := (-2)) C dX12_alone_40 (by decide) ?_
      exact r_iret C hr dX12_alone_42 hw
    · replace hw := hw.2 hc
      refine r_iload C dX12_alone_22 4 rfl ?_
      refine r_iconst (v := 0) C dX12_alone_24 (by decide) ?_
      refine r_iconst (v := 1) C dX12_alone_25 (by decide) ?_
      refine r_callS C (As := [.int x4, .int 0, .int 1]) (rest := []) (c_X12_isIn G hv4 x4 0 1 _ hw) yl_X12_isIn (gm7 (List.mem_of_getElem? (i := 189) rfl) rfl) (gm7 (List.mem_of_getElem? (i := 190) rfl) rfl) (by decide) rfl (Nat.le_of_ble_eq_true rfl) dX12_alone_26 rfl (kI fun hv6 iv7 hw => ?_)
      refine r_if_eq C dX12_alone_29 40 (by decide) (fun hc => ?_) (fun hc => ?_)
      · replace hw := hw.1 hc
        refine r_bipush (v := (-2)) C dX12_alone_40 (by decide) ?_
        exact r_iret C hr dX12_alone_42 hw
      · replace hw := hw.2 hc
        refine r_iload C dX12_alone_32 5 rfl ?_
        refine r_callS C (As := [.int x5]) (rest := []) (c_X12_isHour G hv6 x5 _ hw) yl_X12_isHour (gm8 (List.mem_of_getElem? (i := 38) rfl) rfl) (gm8 (List.mem_of_getElem? (i := 39) rfl) rfl) (by decide) rfl (Nat.le_of_ble_eq_true rfl) dX12_alone_34 rfl (kI fun hv8 iv9 hw => ?_)
        refine r_if_ne C dX12_alone_37 43 (by decide) (fun hc => ?_) (fun hc => ?_)
        · replace hw := hw.1 hc
          refine r_aload_n C dX12_alone_43 0 rfl ?_
          have hob := hw.1
          replace hw := hw.2
          refine r_callV C (As := []) (rest := []) (c_X12_asItIs G hv8 a0  _ hw) yl_X12_asItIs (gm8 (List.mem_of_getElem? (i := 57) rfl) rfl) (gm8 (List.mem_of_getElem? (i := 59) rfl) rfl) (ci := 11) rfl (by decide) (gsel (List.mem_of_getElem? (i := 70) rfl)) hob (by decide) rfl (Nat.le_of_ble_eq_true rfl) dX12_alone_44 rfl (kV fun hv10  hw => ?_)
          refine r_aload_n C dX12_alone_47 0 rfl ?_
          refine r_iload_n C dX12_alone_48 1 rfl ?_
          have hob := hw.1
          replace hw := hw.2
          refine r_callV C (As := [.int x1]) (rest := []) (c_X12_place G hv10 a0 x1 _ hw) yl_X12_place (gm9 (List.mem_of_getElem? (i := 5) rfl) rfl) (gm9 (List.mem_of_getElem? (i := 7) rfl) rfl) (ci := 11) rfl (by decide) (gsel (List.mem_of_getElem? (i := 97) rfl)) hob (by decide) rfl (Nat.le_of_ble_eq_true rfl) dX12_alone_49 rfl (kI fun hv11 iv12 hw => ?_)
          refine r_istore C dX12_alone_52 [(6, .int iv12), (0, .ref (G.1 + a0)), (1, .int x1), (2, .int x2), (3, .int x3), (4, .int x4), (5, .int x5)] (by decide) rfl ?_
          refine r_aload_n C dX12_alone_54 1 rfl ?_
          refine r_iload_n C dX12_alone_55 2 rfl ?_
          refine r_iload_n C dX12_alone_56 3 rfl ?_
          refine r_iload_n C dX12_alone_57 4 rfl ?_
          refine r_iload C dX12_alone_58 5 rfl ?_
          have hob := hw.1
          replace hw := hw.2
          refine r_callV C (As := [.int x1, .int x2, .int x3, .int x4]) (rest := []) (c_X12_lays G hv11 a0 x1 x2 x3 x4 _ hw) yl_X12_lays (gm9 (List.mem_of_getElem? (i := 9) rfl) rfl) (gm9 (List.mem_of_getElem? (i := 11) rfl) rfl) (ci := 11) rfl (by decide) (gsel (List.mem_of_getElem? (i := 98) rfl)) hob (by decide) rfl (Nat.le_of_ble_eq_true rfl) dX12_alone_60 rfl (kI fun hv13 iv14 hw => ?_)
          refine r_if_ne C dX12_alone_63 69 (by decide) (fun hc => ?_) (fun hc => ?_)
          · replace hw := hw.1 hc
            refine r_aload_n C dX12_alone_69 1 rfl ?_
            refine r_iload_n C dX12_alone_70 2 rfl ?_
            have hob := hw.1
            replace hw := hw.2
            refine r_callV C (As := [.int x1]) (rest := []) (c_X12_place G hv13 a0 x1 _ hw) yl_X12_place (gm9 (List.mem_of_getElem? (i := 5) rfl) rfl) (gm9 (List.mem_of_getElem? (i := 7) rfl) rfl) (ci := 11) rfl (by decide) (gsel (List.mem_of_getElem? (i := 97) rfl)) hob (by decide) rfl (Nat.le_of_ble_eq_true rfl) dX12_alone_71 rfl (kI fun hv15 iv16 hw => ?_)
            refine r_istore C dX12_alone_74 [(7, .int iv16), (6, .int iv12), (0, .ref (G.1 + a0)), (1, .int x1), (2, .int x2), (3, .int x3), (4, .int x4), (5, .int x5)] (by decide) rfl ?_
            refine r_iconst (v := 0) C dX12_alone_76 (by decide) ?_
            refine r_istore C dX12_alone_77 [(8, .int 0), (7, .int iv16), (6, .int iv12), (0, .ref (G.1 + a0)), (1, .int x1), (2, .int x2), (3, .int x3), (4, .int x4), (5, .int x5)] (by decide) rfl ?_
            refine r_sub [3, 4, 8, 2, 1, 0] rfl ?_
            obtain ⟨n, hw⟩ := hw
            exact tl_X12_alone_79 C hr  n _ _ _ _ _ _ _ hw
          · replace hw := hw.2 hc
            refine r_bipush (v := (-2)) C dX12_alone_66 (by decide) ?_
            exact r_iret C hr dX12_alone_68 hw
        · replace hw := hw.2 hc
          refine r_bipush (v := (-2)) C dX12_alone_40 (by decide) ?_
          exact r_iret C hr dX12_alone_42 hw
theorem dX12_found_0 : decode cX12_found 0 = .ok (.aload_n 0, 1) := by decide +kernel
theorem dX12_found_1 : decode cX12_found 1 = .ok (.iconst 0, 1) := by decide +kernel
theorem dX12_found_2 : decode cX12_found 2 = .ok (.putfield 1, 3) := by decide +kernel
theorem dX12_found_5 : decode cX12_found 5 = .ok (.iload_n 1, 1) := by decide +kernel
theorem dX12_found_6 : decode cX12_found 6 = .ok (.iconst 0, 1) := by decide +kernel
theorem dX12_found_7 : decode cX12_found 7 = .ok (.aload_n 0, 1) := by decide +kernel
theorem dX12_found_8 : decode cX12_found 8 = .ok (.getfield 408, 3) := by decide +kernel
theorem dX12_found_11 : decode cX12_found 11 = .ok (.iconst 1, 1) := by decide +kernel
theorem dX12_found_12 : decode cX12_found 12 = .ok (.isub, 1) := by decide +kernel
theorem dX12_found_13 : decode cX12_found 13 = .ok (.invokestatic 196, 3) := by decide +kernel
theorem dX12_found_16 : decode cX12_found 16 = .ok (.ifCond .eq 12, 3) := by decide +kernel
theorem dX12_found_19 : decode cX12_found 19 = .ok (.aload_n 0, 1) := by decide +kernel
theorem dX12_found_20 : decode cX12_found 20 = .ok (.getfield 81, 3) := by decide +kernel
theorem dX12_found_23 : decode cX12_found 23 = .ok (.iload_n 1, 1) := by decide +kernel
theorem dX12_found_24 : decode cX12_found 24 = .ok (.iaload, 1) := by decide +kernel
theorem dX12_found_25 : decode cX12_found 25 = .ok (.goto 4, 3) := by decide +kernel
theorem dX12_found_28 : decode cX12_found 28 = .ok (.iconst (-1), 1) := by decide +kernel
theorem dX12_found_29 : decode cX12_found 29 = .ok (.ireturn, 1) := by decide +kernel
def wp_X12_found (h : AH) (a0 : Nat) (x1 : Int32) (post : AH → Int32 → Prop) : Prop := (ob h a0 11) ∧ (∀ hv1 : AH, hv1 = hI h a0 0 0 → ((ob hv1 a0 11) ∧ (wp_X12_isIn hv1 x1 0 ((aI hv1 a0 40) - (1 : Int32)) (fun hv2 iv3 => (iv3 = 0 → (post hv2 (-1))) ∧ (¬ iv3 = 0 → ((ob hv2 a0 11) ∧ (∃ rv4, aP hv2 a0 39 = some rv4 ∧ ((ob hv2 rv4 13) ∧ ((vp_in x1 (aL hv2 rv4)) ∧ (post hv2 (aI hv2 rv4 x1.toNatClampNeg)))))))))))
set_option maxRecDepth 100000 in
theorem c_X12_found (G : GG) (h : AH) (a0 : Nat) (x1 : Int32) (post : AH → Int32 → Prop) (hw : wp_X12_found h a0 x1 post) : MC G yX12_found cX12_found 2 (some .int) 1 22 h [.ref (G.1 + a0), .int x1] (pI post) := by
  refine MC.of (lv := [(0, .ref (G.1 + a0)), (1, .int x1)]) (by decide) (Nat.le_of_ble_eq_true rfl) rfl fun p l e R s m args below meth c C hr hnm => ?_
  unfold wp_X12_found at hw
  refine r_aload_n C dX12_found_0 0 rfl ?_
  refine r_iconst (v := 0) C dX12_found_1 (by decide) ?_
  refine r_putI C fp_RX12_1_11 hw.1 rfl dX12_found_2 ?_
  replace hw := hw.2
  refine r_toph fun hv1 ehv1 => ?_
  replace hw := hw hv1 ehv1
  refine r_iload_n C dX12_found_5 1 rfl ?_
  refine r_iconst (v := 0) C dX12_found_6 (by decide) ?_
  refine r_aload_n C dX12_found_7 0 rfl ?_
  refine r_getI C fl_RX12_408_11 hw.1 (fun _ _ _ => rfl) dX12_found_8 ?_
  replace hw := hw.2
  refine r_iconst (v := 1) C dX12_found_11 (by decide) ?_
  refine r_isub C dX12_found_12 ?_
  refine r_callS C (As := [.int x1, .int 0, .int ((aI hv1 a0 40) - (1 : Int32))]) (rest := []) (c_X12_isIn G hv1 x1 0 ((aI hv1 a0 40) - (1 : Int32)) _ hw) yl_X12_isIn (gm7 (List.mem_of_getElem? (i := 189) rfl) rfl) (gm7 (List.mem_of_getElem? (i := 190) rfl) rfl) (by decide) rfl (Nat.le_of_ble_eq_true rfl) dX12_found_13 rfl (kI fun hv2 iv3 hw => ?_)
  refine r_if_eq C dX12_found_16 28 (by decide) (fun hc => ?_) (fun hc => ?_)
  · replace hw := hw.1 hc
    refine r_iconst (v := (-1)) C dX12_found_28 (by decide) ?_
    exact r_iret C hr dX12_found_29 hw
  · replace hw := hw.2 hc
    refine r_aload_n C dX12_found_19 0 rfl ?_
    have hob := hw.1
    obtain ⟨rv4, hp, hw⟩ := hw.2
    refine r_getP C fl_RX12_81_11 hob hp (fun _ _ _ => rfl) dX12_found_20 ?_
    refine r_iload_n C dX12_found_23 1 rfl ?_
    refine r_iaload C hw.1 hw.2.1 dX12_found_24 ?_
    replace hw := hw.2.2
    refine r_goto C dX12_found_25 29 (by decide) ?_
    exact r_iret C hr dX12_found_29 hw
theorem dX12_fitsSoFar_0 : decode cX12_fitsSoFar 0 = .ok (.aload_n 0, 1) := by decide +kernel
theorem dX12_fitsSoFar_1 : decode cX12_fitsSoFar 1 = .ok (.iload_n 1, 1) := by decide +kernel
theorem dX12_fitsSoFar_2 : decode cX12_fitsSoFar 2 = .ok (.invokevirtual 326, 3) := by decide +kernel
theorem dX12_fitsSoFar_5 : decode cX12_fitsSoFar 5 = .ok (.ifCond .ne 5, 3) := by decide +kernel
theorem dX12_fitsSoFar_8 : decode cX12_fitsSoFar 8 = .ok (.iconst 0, 1) := by decide +kernel
theorem dX12_fitsSoFar_9 : decode cX12_fitsSoFar 9 = .ok (.ireturn, 1) := by decide +kernel
theorem dX12_fitsSoFar_10 : decode cX12_fitsSoFar 10 = .ok (.iconst 0, 1) := by decide +kernel
theorem dX12_fitsSoFar_11 : decode cX12_fitsSoFar 11 = .ok (.istore_n 2, 1) := by decide +kernel
theorem dX12_fitsSoFar_12 : decode cX12_fitsSoFar 12 = .ok (.iload_n 2, 1) := by decide +kernel
theorem dX12_fitsSoFar_13 : decode cX12_fitsSoFar 13 = .ok (.iload_n 1, 1) := by decide +kernel
theorem dX12_fitsSoFar_14 : decode cX12_fitsSoFar 14 = .ok (.if_icmp .ge 20, 3) := by decide +kernel
theorem dX12_fitsSoFar_17 : decode cX12_fitsSoFar 17 = .ok (.aload_n 0, 1) := by decide +kernel
theorem dX12_fitsSoFar_18 : decode cX12_fitsSoFar 18 = .ok (.iload_n 1, 1) := by decide +kernel
theorem dX12_fitsSoFar_19 : decode cX12_fitsSoFar 19 = .ok (.iload_n 2, 1) := by decide +kernel
theorem dX12_fitsSoFar_20 : decode cX12_fitsSoFar 20 = .ok (.invokevirtual 307, 3) := by decide +kernel
theorem dX12_fitsSoFar_23 : decode cX12_fitsSoFar 23 = .ok (.ifCond .eq 5, 3) := by decide +kernel
theorem dX12_fitsSoFar_26 : decode cX12_fitsSoFar 26 = .ok (.iconst 0, 1) := by decide +kernel
theorem dX12_fitsSoFar_27 : decode cX12_fitsSoFar 27 = .ok (.ireturn, 1) := by decide +kernel
theorem dX12_fitsSoFar_28 : decode cX12_fitsSoFar 28 = .ok (.iinc 2 1, 3) := by decide +kernel
theorem dX12_fitsSoFar_31 : decode cX12_fitsSoFar 31 = .ok (.goto (-19), 3) := by decide +kernel
theorem dX12_fitsSoFar_34 : decode cX12_fitsSoFar 34 = .ok (.iconst 0, 1) := by decide +kernel
theorem dX12_fitsSoFar_35 : decode cX12_fitsSoFar 35 = .ok (.istore_n 2, 1) := by decide +kernel
theorem dX12_fitsSoFar_36 : decode cX12_fitsSoFar 36 = .ok (.iload_n 2, 1) := by decide +kernel
theorem dX12_fitsSoFar_37 : decode cX12_fitsSoFar 37 = .ok (.aload_n 0, 1) := by decide +kernel
theorem dX12_fitsSoFar_38 : decode cX12_fitsSoFar 38 = .ok (.getfield 33, 3) := by decide +kernel
theorem dX12_fitsSoFar_41 : decode cX12_fitsSoFar 41 = .ok (.iconst 4, 1) := by decide +kernel
theorem dX12_fitsSoFar_42 : decode cX12_fitsSoFar 42 = .ok (.iaload, 1) := by decide +kernel
theorem dX12_fitsSoFar_43 : decode cX12_fitsSoFar 43 = .ok (.if_icmp .ge 94, 3) := by decide +kernel
theorem dX12_fitsSoFar_46 : decode cX12_fitsSoFar 46 = .ok (.aload_n 0, 1) := by decide +kernel
theorem dX12_fitsSoFar_47 : decode cX12_fitsSoFar 47 = .ok (.getfield 33, 3) := by decide +kernel
theorem dX12_fitsSoFar_50 : decode cX12_fitsSoFar 50 = .ok (.sipush 135, 3) := by decide +kernel
theorem dX12_fitsSoFar_53 : decode cX12_fitsSoFar 53 = .ok (.iconst 4, 1) := by decide +kernel
theorem dX12_fitsSoFar_54 : decode cX12_fitsSoFar 54 = .ok (.iload_n 2, 1) := by decide +kernel
theorem dX12_fitsSoFar_55 : decode cX12_fitsSoFar 55 = .ok (.imul, 1) := by decide +kernel
theorem dX12_fitsSoFar_56 : decode cX12_fitsSoFar 56 = .ok (.iadd, 1) := by decide +kernel
theorem dX12_fitsSoFar_57 : decode cX12_fitsSoFar 57 = .ok (.iaload, 1) := by decide +kernel
theorem dX12_fitsSoFar_58 : decode cX12_fitsSoFar 58 = .ok (.istore_n 3, 1) := by decide +kernel
theorem dX12_fitsSoFar_59 : decode cX12_fitsSoFar 59 = .ok (.aload_n 0, 1) := by decide +kernel
theorem dX12_fitsSoFar_60 : decode cX12_fitsSoFar 60 = .ok (.getfield 33, 3) := by decide +kernel
theorem dX12_fitsSoFar_63 : decode cX12_fitsSoFar 63 = .ok (.sipush 135, 3) := by decide +kernel
theorem dX12_fitsSoFar_66 : decode cX12_fitsSoFar 66 = .ok (.iconst 4, 1) := by decide +kernel
theorem dX12_fitsSoFar_67 : decode cX12_fitsSoFar 67 = .ok (.iload_n 2, 1) := by decide +kernel
theorem dX12_fitsSoFar_68 : decode cX12_fitsSoFar 68 = .ok (.imul, 1) := by decide +kernel
theorem dX12_fitsSoFar_69 : decode cX12_fitsSoFar 69 = .ok (.iadd, 1) := by decide +kernel
theorem dX12_fitsSoFar_70 : decode cX12_fitsSoFar 70 = .ok (.iconst 1, 1) := by decide +kernel
theorem dX12_fitsSoFar_71 : decode cX12_fitsSoFar 71 = .ok (.iadd, 1) := by decide +kernel
theorem dX12_fitsSoFar_72 : decode cX12_fitsSoFar 72 = .ok (.iaload, 1) := by decide +kernel
theorem dX12_fitsSoFar_73 : decode cX12_fitsSoFar 73 = .ok (.istore 4, 2) := by decide +kernel
theorem dX12_fitsSoFar_75 : decode cX12_fitsSoFar 75 = .ok (.iload_n 3, 1) := by decide +kernel
theorem dX12_fitsSoFar_76 : decode cX12_fitsSoFar 76 = .ok (.iload_n 1, 1) := by decide +kernel
theorem dX12_fitsSoFar_77 : decode cX12_fitsSoFar 77 = .ok (.if_icmp .ne 8, 3) := by decide +kernel
theorem dX12_fitsSoFar_80 : decode cX12_fitsSoFar 80 = .ok (.iload 4, 2) := by decide +kernel
theorem dX12_fitsSoFar_82 : decode cX12_fitsSoFar 82 = .ok (.goto 15, 3) := by decide +kernel
theorem dX12_fitsSoFar_85 : decode cX12_fitsSoFar 85 = .ok (.iload 4, 2) := by decide +kernel
theorem dX12_fitsSoFar_87 : decode cX12_fitsSoFar 87 = .ok (.iload_n 1, 1) := by decide +kernel
theorem dX12_fitsSoFar_88 : decode cX12_fitsSoFar 88 = .ok (.if_icmp .ne 7, 3) := by decide +kernel
theorem dX12_fitsSoFar_91 : decode cX12_fitsSoFar 91 = .ok (.iload_n 3, 1) := by decide +kernel
theorem dX12_fitsSoFar_92 : decode cX12_fitsSoFar 92 = .ok (.goto 5, 3) := by decide +kernel
theorem dX12_fitsSoFar_95 : decode cX12_fitsSoFar 95 = .ok (.bipush 9, 2) := by decide +kernel
theorem dX12_fitsSoFar_97 : decode cX12_fitsSoFar 97 = .ok (.istore 5, 2) := by decide +kernel
theorem dX12_fitsSoFar_99 : decode cX12_fitsSoFar 99 = .ok (.iload 5, 2) := by decide +kernel
theorem dX12_fitsSoFar_101 : decode cX12_fitsSoFar 101 = .ok (.iload_n 1, 1) := by decide +kernel
theorem dX12_fitsSoFar_102 : decode cX12_fitsSoFar 102 = .ok (.if_icmp .ge 29, 3) := by decide +kernel
theorem dX12_fitsSoFar_105 : decode cX12_fitsSoFar 105 = .ok (.aload_n 0, 1) := by decide +kernel
theorem dX12_fitsSoFar_106 : decode cX12_fitsSoFar 106 = .ok (.iload_n 3, 1) := by decide +kernel
theorem dX12_fitsSoFar_107 : decode cX12_fitsSoFar 107 = .ok (.iload 4, 2) := by decide +kernel
theorem dX12_fitsSoFar_109 : decode cX12_fitsSoFar 109 = .ok (.invokevirtual 262, 3) := by decide +kernel
theorem dX12_fitsSoFar_112 : decode cX12_fitsSoFar 112 = .ok (.aload_n 0, 1) := by decide +kernel
theorem dX12_fitsSoFar_113 : decode cX12_fitsSoFar 113 = .ok (.getfield 33, 3) := by decide +kernel
theorem dX12_fitsSoFar_116 : decode cX12_fitsSoFar 116 = .ok (.sipush 135, 3) := by decide +kernel
theorem dX12_fitsSoFar_119 : decode cX12_fitsSoFar 119 = .ok (.iconst 4, 1) := by decide +kernel
theorem dX12_fitsSoFar_120 : decode cX12_fitsSoFar 120 = .ok (.iload_n 2, 1) := by decide +kernel
theorem dX12_fitsSoFar_121 : decode cX12_fitsSoFar 121 = .ok (.imul, 1) := by decide +kernel
theorem dX12_fitsSoFar_122 : decode cX12_fitsSoFar 122 = .ok (.iadd, 1) := by decide +kernel
theorem dX12_fitsSoFar_123 : decode cX12_fitsSoFar 123 = .ok (.iconst 2, 1) := by decide +kernel
theorem dX12_fitsSoFar_124 : decode cX12_fitsSoFar 124 = .ok (.iadd, 1) := by decide +kernel
theorem dX12_fitsSoFar_125 : decode cX12_fitsSoFar 125 = .ok (.iaload, 1) := by decide +kernel
theorem dX12_fitsSoFar_126 : decode cX12_fitsSoFar 126 = .ok (.if_icmp .le 5, 3) := by decide +kernel
theorem dX12_fitsSoFar_129 : decode cX12_fitsSoFar 129 = .ok (.iconst 0, 1) := by decide +kernel
theorem dX12_fitsSoFar_130 : decode cX12_fitsSoFar 130 = .ok (.ireturn, 1) := by decide +kernel
theorem dX12_fitsSoFar_131 : decode cX12_fitsSoFar 131 = .ok (.iinc 2 1, 3) := by decide +kernel
theorem dX12_fitsSoFar_134 : decode cX12_fitsSoFar 134 = .ok (.goto (-98), 3) := by decide +kernel
theorem dX12_fitsSoFar_137 : decode cX12_fitsSoFar 137 = .ok (.iconst 1, 1) := by decide +kernel
theorem dX12_fitsSoFar_138 : decode cX12_fitsSoFar 138 = .ok (.ireturn, 1) := by decide +kernel
def wb_X12_fitsSoFar_131 (K36 : AH → Nat → Int32 → Int32 → Prop) (h : AH) (al0 : Nat) (xl1 : Int32) (xl2 : Int32)  (post : AH → Int32 → Prop) : Prop := ∀ iv1 : Int32, iv1 = xl2 + 1 → (K36 h al0 xl1 iv1)
set_option maxRecDepth 100000 in
theorem tb_X12_fitsSoFar_131 {G : GG} {p : Program} {l : Launch} {e : Env} {R : Room} {s : State} {m : MethodId} {args : Array Value} {below : List Frame} {meth : Method} {c : Code} {n0 s0 : Nat} {post : AH → Int32 → Prop} (C : Cx G p R s m args meth c 6 cX12_fitsSoFar RX12 n0 s0 2 47) (hr : meth.sig.returnType = (some .boolean)) {K36 : AH → Nat → Int32 → Int32 → Prop} (hK36 : ∀ (h : AH) (al0 : Nat) (xl1 : Int32) (xl2 : Int32), K36 h al0 xl1 xl2 → AW G p l e R s m args below meth c 6 (QM G (pI post) args s below n0 s0) 36 [(0, .ref (G.1 + al0)), (1, .int xl1), (2, .int xl2)] [] h) {h : AH} {al0 : Nat} {xl1 : Int32} {xl2 : Int32}  (hw : wb_X12_fitsSoFar_131 K36 h al0 xl1 xl2 post) : AW G p l e R s m args below meth c 6 (QM G (pI post) args s below n0 s0) 131 [(0, .ref (G.1 + al0)), (1, .int xl1), (2, .int xl2)] [] h := by
  unfold wb_X12_fitsSoFar_131 at hw
  obtain ⟨iv1, eiv1⟩ : ∃ q : Int32, q = xl2 + 1 := ⟨_, rfl⟩
  replace hw := hw iv1 eiv1
  refine r_iinc C dX12_fitsSoFar_131 2 rfl (by rw [eiv1]; rfl) [(2, .int iv1), (0, .ref (G.1 + al0)), (1, .int xl1)] (by decide) rfl ?_
  refine r_goto C dX12_fitsSoFar_134 36 (by decide) ?_
  refine r_sub [1, 2, 0] rfl ?_
  exact hK36 _ _ _ _ hw
def wb_X12_fitsSoFar_97 (K36 : AH → Nat → Int32 → Int32 → Prop) (h : AH) (al0 : Nat) (xl1 : Int32) (xl2 : Int32) (xl3 : Int32) (xl4 : Int32) (xs0 : Int32) (post : AH → Int32 → Prop) : Prop := (xl1 ≤ xs0 → (wb_X12_fitsSoFar_131 K36 h al0 xl1 xl2 post)) ∧ (¬ xl1 ≤ xs0 → ((ob h al0 11) ∧ wp_X12_gapOf h al0 xl3 xl4 (fun hv1 iv2 => (ob hv1 al0 11) ∧ (∃ rv3, aP hv1 al0 6 = some rv3 ∧ ((ob hv1 rv3 13) ∧ ((vp_in (((135 : Int32) + ((4 : Int32) * xl2)) + (2 : Int32)) (aL hv1 rv3)) ∧ ((iv2 ≤ (aI hv1 rv3 (((135 : Int32) + ((4 : Int32) * xl2)) + (2 : Int32)).toNatClampNeg) → (wb_X12_fitsSoFar_131 K36 hv1 al0 xl1 xl2 post)) ∧ (¬ iv2 ≤ (aI hv1 rv3 (((135 : Int32) + ((4 : Int32) * xl2)) + (2 : Int32)).toNatClampNeg) → (((0 : Int32) = 0 ∨ (0 : Int32) = 1) ∧ post hv1 0)))))))))
set_option maxRecDepth 100000 in
theorem tb_X12_fitsSoFar_97 {G : GG} {p : Program} {l : Launch} {e : Env} {R : Room} {s : State} {m : MethodId} {args : Array Value} {below : List Frame} {meth : Method} {c : Code} {n0 s0 : Nat} {post : AH → Int32 → Prop} (C : Cx G p R s m args meth c 6 cX12_fitsSoFar RX12 n0 s0 2 47) (hr : meth.sig.returnType = (some .boolean)) {K36 : AH → Nat → Int32 → Int32 → Prop} (hK36 : ∀ (h : AH) (al0 : Nat) (xl1 : Int32) (xl2 : Int32), K36 h al0 xl1 xl2 → AW G p l e R s m args below meth c 6 (QM G (pI post) args s below n0 s0) 36 [(0, .ref (G.1 + al0)), (1, .int xl1), (2, .int xl2)] [] h) {h : AH} {al0 : Nat} {xl1 : Int32} {xl2 : Int32} {xl3 : Int32} {xl4 : Int32} {xs0 : Int32} (hw : wb_X12_fitsSoFar_97 K36 h al0 xl1 xl2 xl3 xl4 xs0 post) : AW G p l e R s m args below meth c 6 (QM G (pI post) args s below n0 s0) 97 [(0, .ref (G.1 + al0)), (1, .int xl1), (2, .int xl2), (3, .int xl3), (4, .int xl4)] [.int xs0] h := by
  unfold wb_X12_fitsSoFar_97 at hw
  refine r_istore C dX12_fitsSoFar_97 [(5, .int xs0), (0, .ref (G.1 + al0)), (1, .int xl1), (2, .int xl2), (3, .int xl3), (4, .int xl4)] (by decide) rfl ?_
  refine r_iload C dX12_fitsSoFar_99 0 rfl ?_
  refine r_iload_n C dX12_fitsSoFar_101 2 rfl ?_
  refine r_icmp_ge C dX12_fitsSoFar_102 131 (by decide) (fun hc => ?_) (fun hc => ?_)
  · replace hw := hw.1 hc
    refine r_sub [1, 2, 3] rfl ?_
    exact tb_X12_fitsSoFar_131 C hr hK36 hw
  · replace hw := hw.2 hc
    refine r_aload_n C dX12_fitsSoFar_105 1 rfl ?_
    refine r_iload_n C dX12_fitsSoFar_106 4 rfl ?_
    refine r_iload C dX12_fitsSoFar_107 5 rfl ?_
    have hob := hw.1
    replace hw := hw.2
    refine r_callV C (As := [.int xl3, .int xl4]) (rest := []) (c_X12_gapOf G h al0 xl3 xl4 _ hw) yl_X12_gapOf (gm7 (List.mem_of_getElem? (i := 223) rfl) rfl) (gm7 (List.mem_of_getElem? (i := 225) rfl) rfl) (ci := 11) rfl (by decide) (gsel (List.mem_of_getElem? (i := 56) rfl)) hob (by decide) rfl (Nat.le_of_ble_eq_true rfl) dX12_fitsSoFar_109 rfl (kI fun hv1 iv2 hw => ?_)
    refine r_aload_n C dX12_fitsSoFar_112 1 rfl ?_
    have hob := hw.1
    obtain ⟨rv3, hp, hw⟩ := hw.2
    refine r_getP C fl_RX12_33_11 hob hp (fun _ _ _ => rfl) dX12_fitsSoFar_113 ?_
    refine r_sipush (v := 135) C dX12_fitsSoFar_116 (by decide) ?_
    refine r_iconst (v := 4) C dX12_fitsSoFar_119 (by decide) ?_
    refine r_iload_n C dX12_fitsSoFar_120 3 rfl ?_
    refine r_imul C dX12_fitsSoFar_121 ?_
    refine r_iadd C dX12_fitsSoFar_122 ?_
    refine r_iconst (v := 2) C dX12_fitsSoFar_123 (by decide) ?_
    refine r_iadd C dX12_fitsSoFar_124 ?_
    refine r_iaload C hw.1 hw.2.1 dX12_fitsSoFar_125 ?_
    replace hw := hw.2.2
    refine r_icmp_le C dX12_fitsSoFar_126 131 (by decide) (fun hc => ?_) (fun hc => ?_)
    · replace hw := hw.1 hc
      refine r_sub [1, 2, 3] rfl ?_
      exact tb_X12_fitsSoFar_131 C hr hK36 hw
    · replace hw := hw.2 hc
      refine r_iconst (v := 0) C dX12_fitsSoFar_129 (by decide) ?_
      exact r_zret C hr dX12_fitsSoFar_130 hw.1 hw.2
def wb_X12_fitsSoFar_36 (K36 : AH → Nat → Int32 → Int32 → Prop) (h : AH) (al0 : Nat) (xl1 : Int32) (xl2 : Int32)  (post : AH → Int32 → Prop) : Prop := (ob h al0 11) ∧ (∃ rv1, aP h al0 6 = some rv1 ∧ ((ob h rv1 13) ∧ ((vp_in 4 (aL h rv1)) ∧ (((aI h rv1 (4 : Int32).toNatClampNeg) ≤ xl2 → (((1 : Int32) = 0 ∨ (1 : Int32) = 1) ∧ post h 1)) ∧ (¬ (aI h rv1 (4 : Int32).toNatClampNeg) ≤ xl2 → ((ob h al0 11) ∧ (∃ rv2, aP h al0 6 = some rv2 ∧ ((ob h rv2 13) ∧ ((vp_in ((135 : Int32) + ((4 : Int32) * xl2)) (aL h rv2)) ∧ (∀ iv3 : Int32, iv3 = aI h rv2 ((135 : Int32) + ((4 : Int32) * xl2)).toNatClampNeg → ((ob h al0 11) ∧ (∃ rv4, aP h al0 6 = some rv4 ∧ ((ob h rv4 13) ∧ ((vp_in (((135 : Int32) + ((4 : Int32) * xl2)) + (1 : Int32)) (aL h rv4)) ∧ (∀ iv5 : Int32, iv5 = aI h rv4 (((135 : Int32) + ((4 : Int32) * xl2)) + (1 : Int32)).toNatClampNeg → ((¬ iv3 = xl1 → ((¬ iv5 = xl1 → (wb_X12_fitsSoFar_97 K36 h al0 xl1 xl2 iv3 iv5 9 post)) ∧ (iv5 = xl1 → (wb_X12_fitsSoFar_97 K36 h al0 xl1 xl2 iv3 iv5 iv3 post)))) ∧ (iv3 = xl1 → (wb_X12_fitsSoFar_97 K36 h al0 xl1 xl2 iv3 iv5 iv5 post))))))))))))))))))
set_option maxRecDepth 100000 in
theorem tb_X12_fitsSoFar_36 {G : GG} {p : Program} {l : Launch} {e : Env} {R : Room} {s : State} {m : MethodId} {args : Array Value} {below : List Frame} {meth : Method} {c : Code} {n0 s0 : Nat} {post : AH → Int32 → Prop} (C : Cx G p R s m args meth c 6 cX12_fitsSoFar RX12 n0 s0 2 47) (hr : meth.sig.returnType = (some .boolean)) {K36 : AH → Nat → Int32 → Int32 → Prop} (hK36 : ∀ (h : AH) (al0 : Nat) (xl1 : Int32) (xl2 : Int32), K36 h al0 xl1 xl2 → AW G p l e R s m args below meth c 6 (QM G (pI post) args s below n0 s0) 36 [(0, .ref (G.1 + al0)), (1, .int xl1), (2, .int xl2)] [] h) {h : AH} {al0 : Nat} {xl1 : Int32} {xl2 : Int32}  (hw : wb_X12_fitsSoFar_36 K36 h al0 xl1 xl2 post) : AW G p l e R s m args below meth c 6 (QM G (pI post) args s below n0 s0) 36 [(0, .ref (G.1 + al0)), (1, .int xl1), (2, .int xl2)] [] h := by
  unfold wb_X12_fitsSoFar_36 at hw
  refine r_iload_n C dX12_fitsSoFar_36 2 rfl ?_
  refine r_aload_n C dX12_fitsSoFar_37 0 rfl ?_
  have hob := hw.1
  obtain ⟨rv1, hp, hw⟩ := hw.2
  refine r_getP C fl_RX12_33_11 hob hp (fun _ _ _ => rfl) dX12_fitsSoFar_38 ?_
  refine r_iconst (v := 4) C dX12_fitsSoFar_41 (by decide) ?_
  refine r_iaload C hw.1 hw.2.1 dX12_fitsSoFar_42 ?_
  replace hw := hw.2.2
  refine r_icmp_ge C dX12_fitsSoFar_43 137 (by decide) (fun hc => ?_) (fun hc => ?_)
  · replace hw := hw.1 hc
    refine r_iconst (v := 1) C dX12_fitsSoFar_137 (by decide) ?_
    exact r_zret C hr dX12_fitsSoFar_138 hw.1 hw.2
  · replace hw := hw.2 hc
    refine r_aload_n C dX12_fitsSoFar_46 0 rfl ?_
    have hob := hw.1
    obtain ⟨rv2, hp, hw⟩ := hw.2
    refine r_getP C fl_RX12_33_11 hob hp (fun _ _ _ => rfl) dX12_fitsSoFar_47 ?_
    refine r_sipush (v := 135) C dX12_fitsSoFar_50 (by decide) ?_
    refine r_iconst (v := 4) C dX12_fitsSoFar_53 (by decide) ?_
    refine r_iload_n C dX12_fitsSoFar_54 2 rfl ?_
    refine r_imul C dX12_fitsSoFar_55 ?_
    refine r_iadd C dX12_fitsSoFar_56 ?_
    refine r_iaload C hw.1 hw.2.1 dX12_fitsSoFar_57 ?_
    replace hw := hw.2.2
    refine r_topi fun iv3 eiv3 => ?_
    replace hw := hw iv3 eiv3
    refine r_istore_n C dX12_fitsSoFar_58 [(3, .int iv3), (0, .ref (G.1 + al0)), (1, .int xl1), (2, .int xl2)] (by decide) rfl ?_
    refine r_aload_n C dX12_fitsSoFar_59 1 rfl ?_
    have hob := hw.1
    obtain ⟨rv4, hp, hw⟩ := hw.2
    refine r_getP C fl_RX12_33_11 hob hp (fun _ _ _ => rfl) dX12_fitsSoFar_60 ?_
    refine r_sipush (v := 135) C dX12_fitsSoFar_63 (by decide) ?_
    refine r_iconst (v := 4) C dX12_fitsSoFar_66 (by decide) ?_
    refine r_iload_n C dX12_fitsSoFar_67 3 rfl ?_
    refine r_imul C dX12_fitsSoFar_68 ?_
    refine r_iadd C dX12_fitsSoFar_69 ?_
    refine r_iconst (v := 1) C dX12_fitsSoFar_70 (by decide) ?_
    refine r_iadd C dX12_fitsSoFar_71 ?_
    refine r_iaload C hw.1 hw.2.1 dX12_fitsSoFar_72 ?_
    replace hw := hw.2.2
    refine r_topi fun iv5 eiv5 => ?_
    replace hw := hw iv5 eiv5
    refine r_istore C dX12_fitsSoFar_73 [(4, .int iv5), (3, .int iv3), (0, .ref (G.1 + al0)), (1, .int xl1), (2, .int xl2)] (by decide) rfl ?_
    refine r_iload_n C dX12_fitsSoFar_75 1 rfl ?_
    refine r_iload_n C dX12_fitsSoFar_76 3 rfl ?_
    refine r_icmp_ne C dX12_fitsSoFar_77 85 (by decide) (fun hc => ?_) (fun hc => ?_)
    · replace hw := hw.1 hc
      refine r_iload C dX12_fitsSoFar_85 0 rfl ?_
      refine r_iload_n C dX12_fitsSoFar_87 3 rfl ?_
      refine r_icmp_ne C dX12_fitsSoFar_88 95 (by decide) (fun hc => ?_) (fun hc => ?_)
      · replace hw := hw.1 hc
        refine r_bipush (v := 9) C dX12_fitsSoFar_95 (by decide) ?_
        refine r_sub [2, 3, 4, 1, 0] rfl ?_
        exact tb_X12_fitsSoFar_97 C hr hK36 hw
      · replace hw := hw.2 hc
        refine r_iload_n C dX12_fitsSoFar_91 1 rfl ?_
        refine r_goto C dX12_fitsSoFar_92 97 (by decide) ?_
        refine r_sub [2, 3, 4, 1, 0] rfl ?_
        exact tb_X12_fitsSoFar_97 C hr hK36 hw
    · replace hw := hw.2 hc
      refine r_iload C dX12_fitsSoFar_80 0 rfl ?_
      refine r_goto C dX12_fitsSoFar_82 97 (by decide) ?_
      refine r_sub [2, 3, 4, 1, 0] rfl ?_
      exact tb_X12_fitsSoFar_97 C hr hK36 hw
def wl_X12_fitsSoFar_36  (post : AH → Int32 → Prop) : Nat → AH → Nat → Int32 → Int32 → Prop
  | 0 => fun _ _ _ _ => False
  | n + 1 => fun h al0 xl1 xl2 => wb_X12_fitsSoFar_36  (wl_X12_fitsSoFar_36  post n) h al0 xl1 xl2 post
theorem tl_X12_fitsSoFar_36 {G : GG} {p : Program} {l : Launch} {e : Env} {R : Room} {s : State} {m : MethodId} {args : Array Value} {below : List Frame} {meth : Method} {c : Code} {n0 s0 : Nat} {post : AH → Int32 → Prop} (C : Cx G p R s m args meth c 6 cX12_fitsSoFar RX12 n0 s0 2 47) (hr : meth.sig.returnType = (some .boolean))   : ∀ (n : Nat) (h : AH) (al0 : Nat) (xl1 : Int32) (xl2 : Int32), wl_X12_fitsSoFar_36  post n h al0 xl1 xl2 → AW G p l e R s m args below meth c 6 (QM G (pI post) args s below n0 s0) 36 [(0, .ref (G.1 + al0)), (1, .int xl1), (2, .int xl2)] [] h := by
  intro n
  induction n with
  | zero => intro h al0 xl1 xl2 hw; exact hw.elim
  | succ n ih => intro h al0 xl1 xl2 hw; exact tb_X12_fitsSoFar_36 C hr  ih hw
def wb_X12_fitsSoFar_12 (K12 : AH → Nat → Int32 → Int32 → Prop) (h : AH) (al0 : Nat) (xl1 : Int32) (xl2 : Int32)  (post : AH → Int32 → Prop) : Prop := (xl1 ≤ xl2 → (∃ n, wl_X12_fitsSoFar_36  post n h al0 xl1 0)) ∧ (¬ xl1 ≤ xl2 → ((ob h al0 11) ∧ wp_X12_isOver h al0 xl1 xl2 (fun hv1 iv2 => (iv2 = 0 → (∀ iv3 : Int32, iv3 = xl2 + 1 → (K12 hv1 al0 xl1 iv3))) ∧ (¬ iv2 = 0 → (((0 : Int32) = 0 ∨ (0 : Int32) = 1) ∧ post hv1 0)))))
set_option maxRecDepth 100000 in
theorem tb_X12_fitsSoFar_12 {G : GG} {p : Program} {l : Launch} {e : Env} {R : Room} {s : State} {m : MethodId} {args : Array Value} {below : List Frame} {meth : Method} {c : Code} {n0 s0 : Nat} {post : AH → Int32 → Prop} (C : Cx G p R s m args meth c 6 cX12_fitsSoFar RX12 n0 s0 2 47) (hr : meth.sig.returnType = (some .boolean)) {K12 : AH → Nat → Int32 → Int32 → Prop} (hK12 : ∀ (h : AH) (al0 : Nat) (xl1 : Int32) (xl2 : Int32), K12 h al0 xl1 xl2 → AW G p l e R s m args below meth c 6 (QM G (pI post) args s below n0 s0) 12 [(0, .ref (G.1 + al0)), (1, .int xl1), (2, .int xl2)] [] h) {h : AH} {al0 : Nat} {xl1 : Int32} {xl2 : Int32}  (hw : wb_X12_fitsSoFar_12 K12 h al0 xl1 xl2 post) : AW G p l e R s m args below meth c 6 (QM G (pI post) args s below n0 s0) 12 [(0, .ref (G.1 + al0)), (1, .int xl1), (2, .int xl2)] [] h := by
  unfold wb_X12_fitsSoFar_12 at hw
  refine r_iload_n C dX12_fitsSoFar_12 2 rfl ?_
  refine r_iload_n C dX12_fitsSoFar_13 1 rfl ?_
  refine r_icmp_ge C dX12_fitsSoFar_14 34 (by decide) (fun hc => ?_) (fun hc => ?_)
  · replace hw := hw.1 hc
    refine r_iconst (v := 0) C dX12_fitsSoFar_34 (by decide) ?_
    refine r_istore_n C dX12_fitsSoFar_35 [(2, .int 0), (0, .ref (G.1 + al0)), (1, .int xl1)] (by decide) rfl ?_
    refine r_sub [1, 2, 0] rfl ?_
    obtain ⟨n, hw⟩ := hw
    exact tl_X12_fitsSoFar_36 C hr  n _ _ _ _ hw
  · replace hw := hw.2 hc
    refine r_aload_n C dX12_fitsSoFar_17 0 rfl ?_
    refine r_iload_n C dX12_fitsSoFar_18 1 rfl ?_
    refine r_iload_n C dX12_fitsSoFar_19 2 rfl ?_
    have hob := hw.1
    replace hw := hw.2
    refine r_callV C (As := [.int xl1, .int xl2]) (rest := []) (c_X12_isOver G h al0 xl1 xl2 _ hw) yl_X12_isOver (gm8 (List.mem_of_getElem? (i := 89) rfl) rfl) (gm8 (List.mem_of_getElem? (i := 91) rfl) rfl) (ci := 11) rfl (by decide) (gsel (List.mem_of_getElem? (i := 76) rfl)) hob (by decide) rfl (Nat.le_of_ble_eq_true rfl) dX12_fitsSoFar_20 rfl (kI fun hv1 iv2 hw => ?_)
    refine r_if_eq C dX12_fitsSoFar_23 28 (by decide) (fun hc => ?_) (fun hc => ?_)
    · replace hw := hw.1 hc
      obtain ⟨iv3, eiv3⟩ : ∃ q : Int32, q = xl2 + 1 := ⟨_, rfl⟩
      replace hw := hw iv3 eiv3
      refine r_iinc C dX12_fitsSoFar_28 2 rfl (by rw [eiv3]; rfl) [(2, .int iv3), (0, .ref (G.1 + al0)), (1, .int xl1)] (by decide) rfl ?_
      refine r_goto C dX12_fitsSoFar_31 12 (by decide) ?_
      refine r_sub [1, 2, 0] rfl ?_
      exact hK12 _ _ _ _ hw
    · replace hw := hw.2 hc
      refine r_iconst (v := 0) C dX12_fitsSoFar_26 (by decide) ?_
      exact r_zret C hr dX12_fitsSoFar_27 hw.1 hw.2
def wl_X12_fitsSoFar_12  (post : AH → Int32 → Prop) : Nat → AH → Nat → Int32 → Int32 → Prop
  | 0 => fun _ _ _ _ => False
  | n + 1 => fun h al0 xl1 xl2 => wb_X12_fitsSoFar_12  (wl_X12_fitsSoFar_12  post n) h al0 xl1 xl2 post
theorem tl_X12_fitsSoFar_12 {G : GG} {p : Program} {l : Launch} {e : Env} {R : Room} {s : State} {m : MethodId} {args : Array Value} {below : List Frame} {meth : Method} {c : Code} {n0 s0 : Nat} {post : AH → Int32 → Prop} (C : Cx G p R s m args meth c 6 cX12_fitsSoFar RX12 n0 s0 2 47) (hr : meth.sig.returnType = (some .boolean))   : ∀ (n : Nat) (h : AH) (al0 : Nat) (xl1 : Int32) (xl2 : Int32), wl_X12_fitsSoFar_12  post n h al0 xl1 xl2 → AW G p l e R s m args below meth c 6 (QM G (pI post) args s below n0 s0) 12 [(0, .ref (G.1 + al0)), (1, .int xl1), (2, .int xl2)] [] h := by
  intro n
  induction n with
  | zero => intro h al0 xl1 xl2 hw; exact hw.elim
  | succ n ih => intro h al0 xl1 xl2 hw; exact tb_X12_fitsSoFar_12 C hr  ih hw
def wp_X12_fitsSoFar (h : AH) (a0 : Nat) (x1 : Int32) (post : AH → Int32 → Prop) : Prop := (ob h a0 11) ∧ wp_X12_isInside h a0 x1 (fun hv1 iv2 => (¬ iv2 = 0 → (∃ n, wl_X12_fitsSoFar_12  post n hv1 a0 x1 0)) ∧ (iv2 = 0 → (((0 : Int32) = 0 ∨ (0 : Int32) = 1) ∧ post hv1 0)))
set_option maxRecDepth 100000 in
theorem c_X12_fitsSoFar (G : GG) (h : AH) (a0 : Nat) (x1 : Int32) (post : AH → Int32 → Prop) (hw : wp_X12_fitsSoFar h a0 x1 post) : MC G yX12_fitsSoFar cX12_fitsSoFar 6 (some .boolean) 2 47 h [.ref (G.1 + a0), .int x1] (pI post) := by
  refine MC.of (lv := [(0, .ref (G.1 + a0)), (1, .int x1)]) (by decide) (Nat.le_of_ble_eq_true rfl) rfl fun p l e R s m args below meth c C hr hnm => ?_
  unfold wp_X12_fitsSoFar at hw
  refine r_aload_n C dX12_fitsSoFar_0 0 rfl ?_
  refine r_iload_n C dX12_fitsSoFar_1 1 rfl ?_
  have hob := hw.1
  replace hw := hw.2
  refine r_callV C (As := [.int x1]) (rest := []) (c_X12_isInside G h a0 x1 _ hw) yl_X12_isInside (gm8 (List.mem_of_getElem? (i := 81) rfl) rfl) (gm8 (List.mem_of_getElem? (i := 83) rfl) rfl) (ci := 11) rfl (by decide) (gsel (List.mem_of_getElem? (i := 74) rfl)) hob (by decide) rfl (Nat.le_of_ble_eq_true rfl) dX12_fitsSoFar_2 rfl (kI fun hv1 iv2 hw => ?_)
  refine r_if_ne C dX12_fitsSoFar_5 10 (by decide) (fun hc => ?_) (fun hc => ?_)
  · replace hw := hw.1 hc
    refine r_iconst (v := 0) C dX12_fitsSoFar_10 (by decide) ?_
    refine r_istore_n C dX12_fitsSoFar_11 [(2, .int 0), (0, .ref (G.1 + a0)), (1, .int x1)] (by decide) rfl ?_
    refine r_sub [1, 2, 0] rfl ?_
    obtain ⟨n, hw⟩ := hw
    exact tl_X12_fitsSoFar_12 C hr  n _ _ _ _ hw
  · replace hw := hw.2 hc
    refine r_iconst (v := 0) C dX12_fitsSoFar_8 (by decide) ?_
    exact r_zret C hr dX12_fitsSoFar_9 hw.1 hw.2
theorem dX12_all_0 : decode cX12_all 0 = .ok (.aload_n 0, 1) := by decide +kernel
theorem dX12_all_1 : decode cX12_all 1 = .ok (.iconst 0, 1) := by decide +kernel
theorem dX12_all_2 : decode cX12_all 2 = .ok (.putfield 1, 3) := by decide +kernel
theorem dX12_all_5 : decode cX12_all 5 = .ok (.aload_n 0, 1) := by decide +kernel
theorem dX12_all_6 : decode cX12_all 6 = .ok (.invokevirtual 411, 3) := by decide +kernel
theorem dX12_all_9 : decode cX12_all 9 = .ok (.ifCond .ne 6, 3) := by decide +kernel
theorem dX12_all_12 : decode cX12_all 12 = .ok (.bipush (-2), 2) := by decide +kernel
theorem dX12_all_14 : decode cX12_all 14 = .ok (.ireturn, 1) := by decide +kernel
theorem dX12_all_15 : decode cX12_all 15 = .ok (.aload_n 0, 1) := by decide +kernel
theorem dX12_all_16 : decode cX12_all 16 = .ok (.invokevirtual 317, 3) := by decide +kernel
theorem dX12_all_19 : decode cX12_all 19 = .ok (.aload_n 0, 1) := by decide +kernel
theorem dX12_all_20 : decode cX12_all 20 = .ok (.getfield 33, 3) := by decide +kernel
theorem dX12_all_23 : decode cX12_all 23 = .ok (.iconst 0, 1) := by decide +kernel
theorem dX12_all_24 : decode cX12_all 24 = .ok (.iaload, 1) := by decide +kernel
theorem dX12_all_25 : decode cX12_all 25 = .ok (.aload_n 0, 1) := by decide +kernel
theorem dX12_all_26 : decode cX12_all 26 = .ok (.getfield 33, 3) := by decide +kernel
theorem dX12_all_29 : decode cX12_all 29 = .ok (.iconst 1, 1) := by decide +kernel
theorem dX12_all_30 : decode cX12_all 30 = .ok (.iaload, 1) := by decide +kernel
theorem dX12_all_31 : decode cX12_all 31 = .ok (.imul, 1) := by decide +kernel
theorem dX12_all_32 : decode cX12_all 32 = .ok (.istore_n 1, 1) := by decide +kernel
theorem dX12_all_33 : decode cX12_all 33 = .ok (.iconst (-1), 1) := by decide +kernel
theorem dX12_all_34 : decode cX12_all 34 = .ok (.istore_n 2, 1) := by decide +kernel
theorem dX12_all_35 : decode cX12_all 35 = .ok (.iconst 0, 1) := by decide +kernel
theorem dX12_all_36 : decode cX12_all 36 = .ok (.istore_n 3, 1) := by decide +kernel
theorem dX12_all_37 : decode cX12_all 37 = .ok (.aload_n 0, 1) := by decide +kernel
theorem dX12_all_38 : decode cX12_all 38 = .ok (.getfield 33, 3) := by decide +kernel
theorem dX12_all_41 : decode cX12_all 41 = .ok (.iconst 2, 1) := by decide +kernel
theorem dX12_all_42 : decode cX12_all 42 = .ok (.iaload, 1) := by decide +kernel
theorem dX12_all_43 : decode cX12_all 43 = .ok (.ifCond .ne 15, 3) := by decide +kernel
theorem dX12_all_46 : decode cX12_all 46 = .ok (.aload_n 0, 1) := by decide +kernel
theorem dX12_all_47 : decode cX12_all 47 = .ok (.iconst 0, 1) := by decide +kernel
theorem dX12_all_48 : decode cX12_all 48 = .ok (.putfield 102, 3) := by decide +kernel
theorem dX12_all_51 : decode cX12_all 51 = .ok (.aload_n 0, 1) := by decide +kernel
theorem dX12_all_52 : decode cX12_all 52 = .ok (.iconst 0, 1) := by decide +kernel
theorem dX12_all_53 : decode cX12_all 53 = .ok (.putfield 432, 3) := by decide +kernel
theorem dX12_all_56 : decode cX12_all 56 = .ok (.iconst 0, 1) := by decide +kernel
theorem dX12_all_57 : decode cX12_all 57 = .ok (.ireturn, 1) := by decide +kernel
theorem dX12_all_58 : decode cX12_all 58 = .ok (.aload_n 0, 1) := by decide +kernel
theorem dX12_all_59 : decode cX12_all 59 = .ok (.getfield 96, 3) := by decide +kernel
theorem dX12_all_62 : decode cX12_all 62 = .ok (.iconst 0, 1) := by decide +kernel
theorem dX12_all_63 : decode cX12_all 63 = .ok (.iconst 0, 1) := by decide +kernel
theorem dX12_all_64 : decode cX12_all 64 = .ok (.iastore, 1) := by decide +kernel
theorem dX12_all_65 : decode cX12_all 65 = .ok (.iload_n 3, 1) := by decide +kernel
theorem dX12_all_66 : decode cX12_all 66 = .ok (.ifCond .lt 254, 3) := by decide +kernel
theorem dX12_all_69 : decode cX12_all 69 = .ok (.aload_n 0, 1) := by decide +kernel
theorem dX12_all_70 : decode cX12_all 70 = .ok (.getfield 96, 3) := by decide +kernel
theorem dX12_all_73 : decode cX12_all 73 = .ok (.iload_n 3, 1) := by decide +kernel
theorem dX12_all_74 : decode cX12_all 74 = .ok (.iaload, 1) := by decide +kernel
theorem dX12_all_75 : decode cX12_all 75 = .ok (.istore 4, 2) := by decide +kernel
theorem dX12_all_77 : decode cX12_all 77 = .ok (.aload_n 0, 1) := by decide +kernel
theorem dX12_all_78 : decode cX12_all 78 = .ok (.getfield 96, 3) := by decide +kernel
theorem dX12_all_81 : decode cX12_all 81 = .ok (.iload_n 3, 1) := by decide +kernel
theorem dX12_all_82 : decode cX12_all 82 = .ok (.dup2, 1) := by decide +kernel
theorem dX12_all_83 : decode cX12_all 83 = .ok (.iaload, 1) := by decide +kernel
theorem dX12_all_84 : decode cX12_all 84 = .ok (.iconst 1, 1) := by decide +kernel
theorem dX12_all_85 : decode cX12_all 85 = .ok (.iadd, 1) := by decide +kernel
theorem dX12_all_86 : decode cX12_all 86 = .ok (.iastore, 1) := by decide +kernel
theorem dX12_all_87 : decode cX12_all 87 = .ok (.iload 4, 2) := by decide +kernel
theorem dX12_all_89 : decode cX12_all 89 = .ok (.iconst 2, 1) := by decide +kernel
theorem dX12_all_90 : decode cX12_all 90 = .ok (.iload_n 1, 1) := by decide +kernel
theorem dX12_all_91 : decode cX12_all 91 = .ok (.imul, 1) := by decide +kernel
theorem dX12_all_92 : decode cX12_all 92 = .ok (.if_icmp .lt 9, 3) := by decide +kernel
theorem dX12_all_95 : decode cX12_all 95 = .ok (.iinc 3 (-1), 3) := by decide +kernel
theorem dX12_all_98 : decode cX12_all 98 = .ok (.goto (-33), 3) := by decide +kernel
theorem dX12_all_101 : decode cX12_all 101 = .ok (.iload 4, 2) := by decide +kernel
theorem dX12_all_103 : decode cX12_all 103 = .ok (.iload_n 1, 1) := by decide +kernel
theorem dX12_all_104 : decode cX12_all 104 = .ok (.if_icmp .lt 7, 3) := by decide +kernel
theorem dX12_all_107 : decode cX12_all 107 = .ok (.iconst 1, 1) := by decide +kernel
theorem dX12_all_108 : decode cX12_all 108 = .ok (.goto 4, 3) := by decide +kernel
theorem dX12_all_111 : decode cX12_all 111 = .ok (.iconst 0, 1) := by decide +kernel
theorem dX12_all_112 : decode cX12_all 112 = .ok (.istore 5, 2) := by decide +kernel
theorem dX12_all_114 : decode cX12_all 114 = .ok (.iload 4, 2) := by decide +kernel
theorem dX12_all_116 : decode cX12_all 116 = .ok (.iload_n 1, 1) := by decide +kernel
theorem dX12_all_117 : decode cX12_all 117 = .ok (.irem, 1) := by decide +kernel
theorem dX12_all_118 : decode cX12_all 118 = .ok (.istore 6, 2) := by decide +kernel
theorem dX12_all_120 : decode cX12_all 120 = .ok (.aload_n 0, 1) := by decide +kernel
theorem dX12_all_121 : decode cX12_all 121 = .ok (.getfield 50, 3) := by decide +kernel
theorem dX12_all_124 : decode cX12_all 124 = .ok (.iconst 3, 1) := by decide +kernel
theorem dX12_all_125 : decode cX12_all 125 = .ok (.iload_n 3, 1) := by decide +kernel
theorem dX12_all_126 : decode cX12_all 126 = .ok (.imul, 1) := by decide +kernel
theorem dX12_all_127 : decode cX12_all 127 = .ok (.iload 6, 2) := by decide +kernel
theorem dX12_all_129 : decode cX12_all 129 = .ok (.aload_n 0, 1) := by decide +kernel
theorem dX12_all_130 : decode cX12_all 130 = .ok (.getfield 33, 3) := by decide +kernel
theorem dX12_all_133 : decode cX12_all 133 = .ok (.iconst 0, 1) := by decide +kernel
theorem dX12_all_134 : decode cX12_all 134 = .ok (.iaload, 1) := by decide +kernel
theorem dX12_all_135 : decode cX12_all 135 = .ok (.irem, 1) := by decide +kernel
theorem dX12_all_136 : decode cX12_all 136 = .ok (.iastore, 1) := by decide +kernel
theorem dX12_all_137 : decode cX12_all 137 = .ok (.aload_n 0, 1) := by decide +kernel
theorem dX12_all_138 : decode cX12_all 138 = .ok (.getfield 50, 3) := by decide +kernel
theorem dX12_all_141 : decode cX12_all 141 = .ok (.iconst 3, 1) := by decide +kernel
theorem dX12_all_142 : decode cX12_all 142 = .ok (.iload_n 3, 1) := by decide +kernel
theorem dX12_all_143 : decode cX12_all 143 = .ok (.imul, 1) := by decide +kernel
theorem dX12_all_144 : decode cX12_all 144 = .ok (.iconst 1, 1) := by decide +kernel
theorem dX12_all_145 : decode cX12_all 145 = .ok (.iadd, 1) := by decide +kernel
theorem dX12_all_146 : decode cX12_all 146 = .ok (.iload 6, 2) := by decide +kernel
theorem dX12_all_148 : decode cX12_all 148 = .ok (.aload_n 0, 1) := by decide +kernel
theorem dX12_all_149 : decode cX12_all 149 = .ok (.getfield 33, 3) := by decide +kernel
theorem dX12_all_152 : decode cX12_all 152 = .ok (.iconst 0, 1) := by decide +kernel
theorem dX12_all_153 : decode cX12_all 153 = .ok (.iaload, 1) := by decide +kernel
theorem dX12_all_154 : decode cX12_all 154 = .ok (.idiv, 1) := by decide +kernel
theorem dX12_all_155 : decode cX12_all 155 = .ok (.iastore, 1) := by decide +kernel
theorem dX12_all_156 : decode cX12_all 156 = .ok (.aload_n 0, 1) := by decide +kernel
theorem dX12_all_157 : decode cX12_all 157 = .ok (.getfield 50, 3) := by decide +kernel
theorem dX12_all_160 : decode cX12_all 160 = .ok (.iconst 3, 1) := by decide +kernel
theorem dX12_all_161 : decode cX12_all 161 = .ok (.iload_n 3, 1) := by decide +kernel
theorem dX12_all_162 : decode cX12_all 162 = .ok (.imul, 1) := by decide +kernel
theorem dX12_all_163 : decode cX12_all 163 = .ok (.iconst 2, 1) := by decide +kernel
theorem dX12_all_164 : decode cX12_all 164 = .ok (.iadd, 1) := by decide +kernel
theorem dX12_all_165 : decode cX12_all 165 = .ok (.iload 5, 2) := by decide +kernel
theorem dX12_all_167 : decode cX12_all 167 = .ok (.ifCond .eq 7, 3) := by decide +kernel
theorem dX12_all_170 : decode cX12_all 170 = .ok (.iconst 1, 1) := by decide +kernel
theorem dX12_all_171 : decode cX12_all 171 = .ok (.goto 4, 3) := by decide +kernel
theorem dX12_all_174 : decode cX12_all 174 = .ok (.iconst 0, 1) := by decide +kernel
theorem dX12_all_175 : decode cX12_all 175 = .ok (.iastore, 1) := by decide +kernel
theorem dX12_all_176 : decode cX12_all 176 = .ok (.iload 5, 2) := by decide +kernel
theorem dX12_all_178 : decode cX12_all 178 = .ok (.ifCond .eq 24, 3) := by decide +kernel
theorem dX12_all_181 : decode cX12_all 181 = .ok (.aload_n 0, 1) := by decide +kernel
theorem dX12_all_182 : decode cX12_all 182 = .ok (.getfield 53, 3) := by decide +kernel
theorem dX12_all_185 : decode cX12_all 185 = .ok (.iconst 3, 1) := by decide +kernel
theorem dX12_all_186 : decode cX12_all 186 = .ok (.iload_n 3, 1) := by decide +kernel
theorem dX12_all_187 : decode cX12_all 187 = .ok (.imul, 1) := by decide +kernel
theorem dX12_all_188 : decode cX12_all 188 = .ok (.iaload, 1) := by decide +kernel
theorem dX12_all_189 : decode cX12_all 189 = .ok (.aload_n 0, 1) := by decide +kernel
theorem dX12_all_190 : decode cX12_all 190 = .ok (.getfield 53, 3) := by decide +kernel
theorem dX12_all_193 : decode cX12_all 193 = .ok (.iconst 3, 1) := by decide +kernel
theorem dX12_all_194 : decode cX12_all 194 = .ok (.iload_n 3, 1) := by decide +kernel
theorem dX12_all_195 : decode cX12_all 195 = .ok (.imul, 1) := by decide +kernel
theorem dX12_all_196 : decode cX12_all 196 = .ok (.iconst 1, 1) := by decide +kernel
theorem dX12_all_197 : decode cX12_all 197 = .ok (.iadd, 1) := by decide +kernel
theorem dX12_all_198 : decode cX12_all 198 = .ok (.iaload, 1) := by decide +kernel
theorem dX12_all_199 : decode cX12_all 199 = .ok (.if_icmp .eq (-134), 3) := by decide +kernel
theorem dX12_all_202 : decode cX12_all 202 = .ok (.aload_n 0, 1) := by decide +kernel
theorem dX12_all_203 : decode cX12_all 203 = .ok (.iload_n 3, 1) := by decide +kernel
theorem dX12_all_204 : decode cX12_all 204 = .ok (.invokevirtual 435, 3) := by decide +kernel
theorem dX12_all_207 : decode cX12_all 207 = .ok (.ifCond .ne 6, 3) := by decide +kernel
theorem dX12_all_210 : decode cX12_all 210 = .ok (.goto (-145), 3) := by decide +kernel
theorem dX12_all_213 : decode cX12_all 213 = .ok (.iload_n 3, 1) := by decide +kernel
theorem dX12_all_214 : decode cX12_all 214 = .ok (.iconst 1, 1) := by decide +kernel
theorem dX12_all_215 : decode cX12_all 215 = .ok (.iadd, 1) := by decide +kernel
theorem dX12_all_216 : decode cX12_all 216 = .ok (.aload_n 0, 1) := by decide +kernel
theorem dX12_all_217 : decode cX12_all 217 = .ok (.getfield 33, 3) := by decide +kernel
theorem dX12_all_220 : decode cX12_all 220 = .ok (.iconst 2, 1) := by decide +kernel
theorem dX12_all_221 : decode cX12_all 221 = .ok (.iaload, 1) := by decide +kernel
theorem dX12_all_222 : decode cX12_all 222 = .ok (.if_icmp .ge 16, 3) := by decide +kernel
theorem dX12_all_225 : decode cX12_all 225 = .ok (.iinc 3 1, 3) := by decide +kernel
theorem dX12_all_228 : decode cX12_all 228 = .ok (.aload_n 0, 1) := by decide +kernel
theorem dX12_all_229 : decode cX12_all 229 = .ok (.getfield 96, 3) := by decide +kernel
theorem dX12_all_232 : decode cX12_all 232 = .ok (.iload_n 3, 1) := by decide +kernel
theorem dX12_all_233 : decode cX12_all 233 = .ok (.iconst 0, 1) := by decide +kernel
theorem dX12_all_234 : decode cX12_all 234 = .ok (.iastore, 1) := by decide +kernel
theorem dX12_all_235 : decode cX12_all 235 = .ok (.goto (-170), 3) := by decide +kernel
theorem dX12_all_238 : decode cX12_all 238 = .ok (.aload_n 0, 1) := by decide +kernel
theorem dX12_all_239 : decode cX12_all 239 = .ok (.invokevirtual 362, 3) := by decide +kernel
theorem dX12_all_242 : decode cX12_all 242 = .ok (.istore 7, 2) := by decide +kernel
theorem dX12_all_244 : decode cX12_all 244 = .ok (.iload 7, 2) := by decide +kernel
theorem dX12_all_246 : decode cX12_all 246 = .ok (.iload_n 2, 1) := by decide +kernel
theorem dX12_all_247 : decode cX12_all 247 = .ok (.if_icmp .gt 6, 3) := by decide +kernel
theorem dX12_all_250 : decode cX12_all 250 = .ok (.goto (-185), 3) := by decide +kernel
theorem dX12_all_253 : decode cX12_all 253 = .ok (.iload 7, 2) := by decide +kernel
theorem dX12_all_255 : decode cX12_all 255 = .ok (.istore_n 2, 1) := by decide +kernel
theorem dX12_all_256 : decode cX12_all 256 = .ok (.aload_n 0, 1) := by decide +kernel
theorem dX12_all_257 : decode cX12_all 257 = .ok (.aload_n 0, 1) := by decide +kernel
theorem dX12_all_258 : decode cX12_all 258 = .ok (.invokevirtual 365, 3) := by decide +kernel
theorem dX12_all_261 : decode cX12_all 261 = .ok (.iconst (-1), 1) := by decide +kernel
theorem dX12_all_262 : decode cX12_all 262 = .ok (.ixor, 1) := by decide +kernel
theorem dX12_all_263 : decode cX12_all 263 = .ok (.iconst 1, 1) := by decide +kernel
theorem dX12_all_264 : decode cX12_all 264 = .ok (.aload_n 0, 1) := by decide +kernel
theorem dX12_all_265 : decode cX12_all 265 = .ok (.getfield 33, 3) := by decide +kernel
theorem dX12_all_268 : decode cX12_all 268 = .ok (.iconst 5, 1) := by decide +kernel
theorem dX12_all_269 : decode cX12_all 269 = .ok (.iaload, 1) := by decide +kernel
theorem dX12_all_270 : decode cX12_all 270 = .ok (.ishl, 1) := by decide +kernel
theorem dX12_all_271 : decode cX12_all 271 = .ok (.iconst 1, 1) := by decide +kernel
theorem dX12_all_272 : decode cX12_all 272 = .ok (.isub, 1) := by decide +kernel
theorem dX12_all_273 : decode cX12_all 273 = .ok (.iand, 1) := by decide +kernel
theorem dX12_all_274 : decode cX12_all 274 = .ok (.putfield 432, 3) := by decide +kernel
theorem dX12_all_277 : decode cX12_all 277 = .ok (.aload_n 0, 1) := by decide +kernel
theorem dX12_all_278 : decode cX12_all 278 = .ok (.aload_n 0, 1) := by decide +kernel
theorem dX12_all_279 : decode cX12_all 279 = .ok (.getfield 33, 3) := by decide +kernel
theorem dX12_all_282 : decode cX12_all 282 = .ok (.iconst 2, 1) := by decide +kernel
theorem dX12_all_283 : decode cX12_all 283 = .ok (.iaload, 1) := by decide +kernel
theorem dX12_all_284 : decode cX12_all 284 = .ok (.putfield 102, 3) := by decide +kernel
theorem dX12_all_287 : decode cX12_all 287 = .ok (.iconst 0, 1) := by decide +kernel
theorem dX12_all_288 : decode cX12_all 288 = .ok (.istore 8, 2) := by decide +kernel
theorem dX12_all_290 : decode cX12_all 290 = .ok (.iload 8, 2) := by decide +kernel
theorem dX12_all_292 : decode cX12_all 292 = .ok (.bipush 24, 2) := by decide +kernel
theorem dX12_all_294 : decode cX12_all 294 = .ok (.if_icmp .ge 23, 3) := by decide +kernel
theorem dX12_all_297 : decode cX12_all 297 = .ok (.aload_n 0, 1) := by decide +kernel
theorem dX12_all_298 : decode cX12_all 298 = .ok (.getfield 99, 3) := by decide +kernel
theorem dX12_all_301 : decode cX12_all 301 = .ok (.iload 8, 2) := by decide +kernel
theorem dX12_all_303 : decode cX12_all 303 = .ok (.aload_n 0, 1) := by decide +kernel
theorem dX12_all_304 : decode cX12_all 304 = .ok (.getfield 50, 3) := by decide +kernel
theorem dX12_all_307 : decode cX12_all 307 = .ok (.iload 8, 2) := by decide +kernel
theorem dX12_all_309 : decode cX12_all 309 = .ok (.iaload, 1) := by decide +kernel
theorem dX12_all_310 : decode cX12_all 310 = .ok (.iastore, 1) := by decide +kernel
theorem dX12_all_311 : decode cX12_all 311 = .ok (.iinc 8 1, 3) := by decide +kernel
theorem dX12_all_314 : decode cX12_all 314 = .ok (.goto (-24), 3) := by decide +kernel
theorem dX12_all_317 : decode cX12_all 317 = .ok (.goto (-252), 3) := by decide +kernel
theorem dX12_all_320 : decode cX12_all 320 = .ok (.iload_n 2, 1) := by decide +kernel
theorem dX12_all_321 : decode cX12_all 321 = .ok (.ireturn, 1) := by decide +kernel
def wb_X12_all_290 (K65 : AH → Nat → Int32 → Int32 → Int32 → Prop) (K290 : AH → Nat → Int32 → Int32 → Int32 → Int32 → Prop) (h : AH) (al0 : Nat) (xl1 : Int32) (xl2 : Int32) (xl3 : Int32) (xl8 : Int32)  (post : AH → Int32 → Prop) : Prop := (24 ≤ xl8 → (K65 h al0 xl1 xl2 xl3)) ∧ (¬ 24 ≤ xl8 → ((ob h al0 11) ∧ (∃ rv1, aP h al0 47 = some rv1 ∧ ((ob h al0 11) ∧ (∃ rv2, aP h al0 24 = some rv2 ∧ ((ob h rv2 13) ∧ ((vp_in xl8 (aL h rv2)) ∧ ((ob h rv1 13) ∧ ((vp_in xl8 (aL h rv1)) ∧ (∀ hv3 : AH, hv3 = hI h rv1 xl8.toNatClampNeg (aI h rv2 xl8.toNatClampNeg) → (∀ iv4 : Int32, iv4 = xl8 + 1 → (K290 hv3 al0 xl1 xl2 xl3 iv4))))))))))))
set_option maxRecDepth 100000 in
theorem tb_X12_all_290 {G : GG} {p : Program} {l : Launch} {e : Env} {R : Room} {s : State} {m : MethodId} {args : Array Value} {below : List Frame} {meth : Method} {c : Code} {n0 s0 : Nat} {post : AH → Int32 → Prop} (C : Cx G p R s m args meth c 9 cX12_all RX12 n0 s0 5 114) (hr : meth.sig.returnType = (some .int)) {K65 : AH → Nat → Int32 → Int32 → Int32 → Prop} {K290 : AH → Nat → Int32 → Int32 → Int32 → Int32 → Prop} (hK65 : ∀ (h : AH) (al0 : Nat) (xl1 : Int32) (xl2 : Int32) (xl3 : Int32), K65 h al0 xl1 xl2 xl3 → AW G p l e R s m args below meth c 9 (QM G (pI post) args s below n0 s0) 65 [(0, .ref (G.1 + al0)), (1, .int xl1), (2, .int xl2), (3, .int xl3)] [] h) (hK290 : ∀ (h : AH) (al0 : Nat) (xl1 : Int32) (xl2 : Int32) (xl3 : Int32) (xl8 : Int32), K290 h al0 xl1 xl2 xl3 xl8 → AW G p l e R s m args below meth c 9 (QM G (pI post) args s below n0 s0) 290 [(0, .ref (G.1 + al0)), (1, .int xl1), (2, .int xl2), (3, .int xl3), (8, .int xl8)] [] h) {h : AH} {al0 : Nat} {xl1 : Int32} {xl2 : Int32} {xl3 : Int32} {xl8 : Int32}  (hw : wb_X12_all_290 K65 K290 h al0 xl1 xl2 xl3 xl8 post) : AW G p l e R s m args below meth c 9 (QM G (pI post) args s below n0 s0) 290 [(0, .ref (G.1 + al0)), (1, .int xl1), (2, .int xl2), (3, .int xl3), (8, .int xl8)] [] h := by
  unfold wb_X12_all_290 at hw
  refine r_iload C dX12_all_290 4 rfl ?_
  refine r_bipush (v := 24) C dX12_all_292 (by decide) ?_
  refine r_icmp_ge C dX12_all_294 317 (by decide) (fun hc => ?_) (fun hc => ?_)
  · replace hw := hw.1 hc
    refine r_goto C dX12_all_317 65 (by decide) ?_
    refine r_sub [0, 1, 2, 3] rfl ?_
    exact hK65 _ _ _ _ _ hw
  · replace hw := hw.2 hc
    refine r_aload_n C dX12_all_297 0 rfl ?_
    have hob := hw.1
    obtain ⟨rv1, hp, hw⟩ := hw.2
    refine r_getP C fl_RX12_99_11 hob hp (fun _ _ _ => rfl) dX12_all_298 ?_
    refine r_iload C dX12_all_301 4 rfl ?_
    refine r_aload_n C dX12_all_303 0 rfl ?_
    have hob := hw.1
    obtain ⟨rv2, hp, hw⟩ := hw.2
    refine r_getP C fl_RX12_50_11 hob hp (fun _ _ _ => rfl) dX12_all_304 ?_
    refine r_iload C dX12_all_307 4 rfl ?_
    refine r_iaload C hw.1 hw.2.1 dX12_all_309 ?_
    replace hw := hw.2.2
    refine r_iastore C hw.1 hw.2.1 dX12_all_310 ?_
    replace hw := hw.2.2
    refine r_toph fun hv3 ehv3 => ?_
    replace hw := hw hv3 ehv3
    obtain ⟨iv4, eiv4⟩ : ∃ q : Int32, q = xl8 + 1 := ⟨_, rfl⟩
    replace hw := hw iv4 eiv4
    refine r_iinc C dX12_all_311 4 rfl (by rw [eiv4]; rfl) [(8, .int iv4), (0, .ref (G.1 + al0)), (1, .int xl1), (2, .int xl2), (3, .int xl3)] (by decide) rfl ?_
    refine r_goto C dX12_all_314 290 (by decide) ?_
    refine r_sub [1, 2, 3, 4, 0] rfl ?_
    exact hK290 _ _ _ _ _ _ hw
def wl_X12_all_290 (K65 : AH → Nat → Int32 → Int32 → Int32 → Prop) (post : AH → Int32 → Prop) : Nat → AH → Nat → Int32 → Int32 → Int32 → Int32 → Prop
  | 0 => fun _ _ _ _ _ _ => False
  | n + 1 => fun h al0 xl1 xl2 xl3 xl8 => wb_X12_all_290 K65 (wl_X12_all_290 K65 post n) h al0 xl1 xl2 xl3 xl8 post
theorem tl_X12_all_290 {G : GG} {p : Program} {l : Launch} {e : Env} {R : Room} {s : State} {m : MethodId} {args : Array Value} {below : List Frame} {meth : Method} {c : Code} {n0 s0 : Nat} {post : AH → Int32 → Prop} (C : Cx G p R s m args meth c 9 cX12_all RX12 n0 s0 5 114) (hr : meth.sig.returnType = (some .int)) {K65 : AH → Nat → Int32 → Int32 → Int32 → Prop} (hK65 : ∀ (h : AH) (al0 : Nat) (xl1 : Int32) (xl2 : Int32) (xl3 : Int32), K65 h al0 xl1 xl2 xl3 → AW G p l e R s m args below meth c 9 (QM G (pI post) args s below n0 s0) 65 [(0, .ref (G.1 + al0)), (1, .int xl1), (2, .int xl2), (3, .int xl3)] [] h) : ∀ (n : Nat) (h : AH) (al0 : Nat) (xl1 : Int32) (xl2 : Int32) (xl3 : Int32) (xl8 : Int32), wl_X12_all_290 K65 post n h al0 xl1 xl2 xl3 xl8 → AW G p l e R s m args below meth c 9 (QM G (pI post) args s below n0 s0) 290 [(0, .ref (G.1 + al0)), (1, .int xl1), (2, .int xl2), (3, .int xl3), (8, .int xl8)] [] h := by
  intro n
  induction n with
  | zero => intro h al0 xl1 xl2 xl3 xl8 hw; exact hw.elim
  | succ n ih => intro h al0 xl1 xl2 xl3 xl8 hw; exact tb_X12_all_290 C hr hK65 ih hw
def wb_X12_all_202 (K65 : AH → Nat → Int32 → Int32 → Int32 → Prop) (h : AH) (al0 : Nat) (xl1 : Int32) (xl2 : Int32) (xl3 : Int32)  (post : AH → Int32 → Prop) : Prop := (ob h al0 11) ∧ wp_X12_fitsSoFar h al0 xl3 (fun hv1 iv2 => (¬ iv2 = 0 → ((ob hv1 al0 11) ∧ (∃ rv3, aP hv1 al0 6 = some rv3 ∧ ((ob hv1 rv3 13) ∧ ((vp_in 2 (aL hv1 rv3)) ∧ (((aI hv1 rv3 (2 : Int32).toNatClampNeg) ≤ (xl3 + (1 : Int32)) → ((ob hv1 al0 11) ∧ wp_X12_met hv1 al0  (fun hv4 iv5 => (xl2 < iv5 → ((ob hv4 al0 11) ∧ wp_X12_soNow hv4 al0  (fun hv6 iv7 => (ob hv6 al0 11) ∧ (∃ rv8, aP hv6 al0 6 = some rv8 ∧ ((ob hv6 rv8 13) ∧ ((vp_in 5 (aL hv6 rv8)) ∧ ((ob hv6 al0 11) ∧ (∀ hv9 : AH, hv9 = hI hv6 al0 49 ((iv7 ^^^ (-1 : Int32)) &&& (((1 : Int32) <<< ((aI hv6 rv8 (5 : Int32).toNatClampNeg) &&& 31)) - (1 : Int32))) → ((ob hv9 al0 11) ∧ (∃ rv10, aP hv9 al0 6 = some rv10 ∧ ((ob hv9 rv10 13) ∧ ((vp_in 2 (aL hv9 rv10)) ∧ ((ob hv9 al0 11) ∧ (∀ hv11 : AH, hv11 = hI hv9 al0 48 (aI hv9 rv10 (2 : Int32).toNatClampNeg) → (∃ n, wl_X12_all_290 K65 post n hv11 al0 xl1 iv5 xl3 0))))))))))))))) ∧ (¬ xl2 < iv5 → (K65 hv4 al0 xl1 xl2 xl3))))) ∧ (¬ (aI hv1 rv3 (2 : Int32).toNatClampNeg) ≤ (xl3 + (1 : Int32)) → (∀ iv12 : Int32, iv12 = xl3 + 1 → ((ob hv1 al0 11) ∧ (∃ rv13, aP hv1 al0 46 = some rv13 ∧ ((ob hv1 rv13 13) ∧ ((vp_in iv12 (aL hv1 rv13)) ∧ (∀ hv14 : AH, hv14 = hI hv1 rv13 iv12.toNatClampNeg 0 → (K65 hv14 al0 xl1 xl2 iv12)))))))))))))) ∧ (iv2 = 0 → (K65 hv1 al0 xl1 xl2 xl3)))
set_option maxRecDepth 100000 in
theorem tb_X12_all_202 {G : GG} {p : Program} {l : Launch} {e : Env} {R : Room} {s : State} {m : MethodId} {args : Array Value} {below : List Frame} {meth : Method} {c : Code} {n0 s0 : Nat} {post : AH → Int32 → Prop} (C : Cx G p R s m args meth c 9 cX12_all RX12 n0 s0 5 114) (hr : meth.sig.returnType = (some .int)) {K65 : AH → Nat → Int32 → Int32 → Int32 → Prop} (hK65 : ∀ (h : AH) (al0 : Nat) (xl1 : Int32) (xl2 : Int32) (xl3 : Int32), K65 h al0 xl1 xl2 xl3 → AW G p l e R s m args below meth c 9 (QM G (pI post) args s below n0 s0) 65 [(0, .ref (G.1 + al0)), (1, .int xl1), (2, .int xl2), (3, .int xl3)] [] h) {h : AH} {al0 : Nat} {xl1 : Int32} {xl2 : Int32} {xl3 : Int32}  (hw : wb_X12_all_202 K65 h al0 xl1 xl2 xl3 post) : AW G p l e R s m args below meth c 9 (QM G (pI post) args s below n0 s0) 202 [(0, .ref (G.1 + al0)), (1, .int xl1), (2, .int xl2), (3, .int xl3)] [] h := by
  unfold wb_X12_all_202 at hw
  refine r_aload_n C dX12_all_202 0 rfl ?_
  refine r_iload_n C dX12_all_203 3 rfl ?_
  have hob := hw.1
  replace hw := hw.2
  refine r_callV C (As := [.int xl3]) (rest := []) (c_X12_fitsSoFar G h al0 xl3 _ hw) yl_X12_fitsSoFar (gm9 (List.mem_of_getElem? (i := 25) rfl) rfl) (gm9 (List.mem_of_getElem? (i := 27) rfl) rfl) (ci := 11) rfl (by decide) (gsel (List.mem_of_getElem? (i := 100) rfl)) hob (by decide) rfl (Nat.le_of_ble_eq_true rfl) dX12_all_204 rfl (kI fun hv1 iv2 hw => ?_)
  refine r_if_ne C dX12_all_207 213 (by decide) (fun hc => ?_) (fun hc => ?_)
  · replace hw := hw.1 hc
    refine r_iload_n C dX12_all_213 3 rfl ?_
    refine r_iconst (v := 1) C dX12_all_214 (by decide) ?_
    refine r_iadd C dX12_all_215 ?_
    refine r_aload_n C dX12_all_216 0 rfl ?_
    have hob := hw.1
    obtain ⟨rv3, hp, hw⟩ := hw.2
    refine r_getP C fl_RX12_33_11 hob hp (fun _ _ _ => rfl) dX12_all_217 ?_
    refine r_iconst (v := 2) C dX12_all_220 (by decide) ?_
    refine r_iaload C hw.1 hw.2.1 dX12_all_221 ?_
    replace hw := hw.2.2
    refine r_icmp_ge C dX12_all_222 238 (by decide) (fun hc => ?_) (fun hc => ?_)
    · replace hw := hw.1 hc
      refine r_aload_n C dX12_all_238 0 rfl ?_
      have hob := hw.1
      replace hw := hw.2
      refine r_callV C (As := []) (rest := []) (c_X12_met G hv1 al0  _ hw) yl_X12_met (gm8 (List.mem_of_getElem? (i := 141) rfl) rfl) (gm8 (List.mem_of_getElem? (i := 143) rfl) rfl) (ci := 11) rfl (by decide) (gsel (List.mem_of_getElem? (i := 83) rfl)) hob (by decide) rfl (Nat.le_of_ble_eq_true rfl) dX12_all_239 rfl (kI fun hv4 iv5 hw => ?_)
      refine r_istore C dX12_all_242 [(7, .int iv5), (0, .ref (G.1 + al0)), (1, .int xl1), (2, .int xl2), (3, .int xl3)] (by decide) rfl ?_
      refine r_iload C dX12_all_244 0 rfl ?_
      refine r_iload_n C dX12_all_246 3 rfl ?_
      refine r_icmp_gt C dX12_all_247 253 (by decide) (fun hc => ?_) (fun hc => ?_)
      · replace hw := hw.1 hc
        refine r_iload C dX12_all_253 0 rfl ?_
        refine r_istore_n C dX12_all_255 [(2, .int iv5), (7, .int iv5), (0, .ref (G.1 + al0)), (1, .int xl1), (3, .int xl3)] (by decide) rfl ?_
        refine r_aload_n C dX12_all_256 2 rfl ?_
        refine r_aload_n C dX12_all_257 2 rfl ?_
        have hob := hw.1
        replace hw := hw.2
        refine r_callV C (As := []) (rest := [.ref (G.1 + al0)]) (c_X12_soNow G hv4 al0  _ hw) yl_X12_soNow (gm8 (List.mem_of_getElem? (i := 157) rfl) rfl) (gm8 (List.mem_of_getElem? (i := 159) rfl) rfl) (ci := 11) rfl (by decide) (gsel (List.mem_of_getElem? (i := 87) rfl)) hob (by decide) rfl (Nat.le_of_ble_eq_true rfl) dX12_all_258 rfl (kI fun hv6 iv7 hw => ?_)
        refine r_iconst (v := (-1)) C dX12_all_261 (by decide) ?_
        refine r_ixor C dX12_all_262 ?_
        refine r_iconst (v := 1) C dX12_all_263 (by decide) ?_
        refine r_aload_n C dX12_all_264 2 rfl ?_
        have hob := hw.1
        obtain ⟨rv8, hp, hw⟩ := hw.2
        refine r_getP C fl_RX12_33_11 hob hp (fun _ _ _ => rfl) dX12_all_265 ?_
        refine r_iconst (v := 5) C dX12_all_268 (by decide) ?_
        refine r_iaload C hw.1 hw.2.1 dX12_all_269 ?_
        replace hw := hw.2.2
        refine r_ishl C dX12_all_270 ?_
        refine r_iconst (v := 1) C dX12_all_271 (by decide) ?_
        refine r_isub C dX12_all_272 ?_
        refine r_iand C dX12_all_273 ?_
        refine r_putI C fp_RX12_432_11 hw.1 rfl dX12_all_274 ?_
        replace hw := hw.2
        refine r_toph fun hv9 ehv9 => ?_
        replace hw := hw hv9 ehv9
        refine r_aload_n C dX12_all_277 2 rfl ?_
        refine r_aload_n C dX12_all_278 2 rfl ?_
        have hob := hw.1
        obtain ⟨rv10, hp, hw⟩ := hw.2
        refine r_getP C fl_RX12_33_11 hob hp (fun _ _ _ => rfl) dX12_all_279 ?_
        refine r_iconst (v := 2) C dX12_all_282 (by decide) ?_
        refine r_iaload C hw.1 hw.2.1 dX12_all_283 ?_
        replace hw := hw.2.2
        refine r_putI C fp_RX12_102_11 hw.1 rfl dX12_all_284 ?_
        replace hw := hw.2
        refine r_toph fun hv11 ehv11 => ?_
        replace hw := hw hv11 ehv11
        refine r_iconst (v := 0) C dX12_all_287 (by decide) ?_
        refine r_istore C dX12_all_288 [(8, .int 0), (2, .int iv5), (7, .int iv5), (0, .ref (G.1 + al0)), (1, .int xl1), (3, .int xl3)] (by decide) rfl ?_
        refine r_sub [3, 4, 1, 5, 0] rfl ?_
        obtain ⟨n, hw⟩ := hw
        exact tl_X12_all_290 C hr hK65 n _ _ _ _ _ _ hw
      · replace hw := hw.2 hc
        refine r_goto C dX12_all_250 65 (by decide) ?_
        refine r_sub [1, 2, 3, 4] rfl ?_
        exact hK65 _ _ _ _ _ hw
    · replace hw := hw.2 hc
      obtain ⟨iv12, eiv12⟩ : ∃ q : Int32, q = xl3 + 1 := ⟨_, rfl⟩
      replace hw := hw iv12 eiv12
      refine r_iinc C dX12_all_225 3 rfl (by rw [eiv12]; rfl) [(3, .int iv12), (0, .ref (G.1 + al0)), (1, .int xl1), (2, .int xl2)] (by decide) rfl ?_
      refine r_aload_n C dX12_all_228 1 rfl ?_
      have hob := hw.1
      obtain ⟨rv13, hp, hw⟩ := hw.2
      refine r_getP C fl_RX12_96_11 hob hp (fun _ _ _ => rfl) dX12_all_229 ?_
      refine r_iload_n C dX12_all_232 0 rfl ?_
      refine r_iconst (v := 0) C dX12_all_233 (by decide) ?_
      refine r_iastore C hw.1 hw.2.1 dX12_all_234 ?_
      replace hw := hw.2.2
      refine r_toph fun hv14 ehv14 => ?_
      replace hw := hw hv14 ehv14
      refine r_goto C dX12_all_235 65 (by decide) ?_
      refine r_sub [1, 2, 3, 0] rfl ?_
      exact hK65 _ _ _ _ _ hw
  · replace hw := hw.2 hc
    refine r_goto C dX12_all_210 65 (by decide) ?_
    refine r_sub [0, 1, 2, 3] rfl ?_
    exact hK65 _ _ _ _ _ hw
def wb_X12_all_175 (K65 : AH → Nat → Int32 → Int32 → Int32 → Prop) (h : AH) (al0 : Nat) (xl1 : Int32) (xl2 : Int32) (xl3 : Int32) (xl5 : Int32) (xs0 : Int32) (xs1 : Int32) (as2 : Nat) (post : AH → Int32 → Prop) : Prop := (ob h as2 13) ∧ ((vp_in xs1 (aL h as2)) ∧ (∀ hv1 : AH, hv1 = hI h as2 xs1.toNatClampNeg xs0 → ((xl5 = 0 → (wb_X12_all_202 K65 hv1 al0 xl1 xl2 xl3 post)) ∧ (¬ xl5 = 0 → ((ob hv1 al0 11) ∧ (∃ rv2, aP hv1 al0 25 = some rv2 ∧ ((ob hv1 rv2 13) ∧ ((vp_in ((3 : Int32) * xl3) (aL hv1 rv2)) ∧ ((ob hv1 al0 11) ∧ (∃ rv3, aP hv1 al0 25 = some rv3 ∧ ((ob hv1 rv3 13) ∧ ((vp_in (((3 : Int32) * xl3) + (1 : Int32)) (aL hv1 rv3)) ∧ (((aI hv1 rv2 ((3 : Int32) * xl3).toNatClampNeg) = (aI hv1 rv3 (((3 : Int32) * xl3) + (1 : Int32)).toNatClampNeg) → (K65 hv1 al0 xl1 xl2 xl3)) ∧ (¬ (aI hv1 rv2 ((3 : Int32) * xl3).toNatClampNeg) = (aI hv1 rv3 (((3 : Int32) * xl3) + (1 : Int32)).toNatClampNeg) → (wb_X12_all_202 K65 hv1 al0 xl1 xl2 xl3 post)))))))))))))))
set_option maxRecDepth 100000 in
theorem tb_X12_all_175 {G : GG} {p : Program} {l : Launch} {e : Env} {R : Room} {s : State} {m : MethodId} {args : Array Value} {below : List Frame} {meth : Method} {c : Code} {n0 s0 : Nat} {post : AH → Int32 → Prop} (C : Cx G p R s m args meth c 9 cX12_all RX12 n0 s0 5 114) (hr : meth.sig.returnType = (some .int)) {K65 : AH → Nat → Int32 → Int32 → Int32 → Prop} (hK65 : ∀ (h : AH) (al0 : Nat) (xl1 : Int32) (xl2 : Int32) (xl3 : Int32), K65 h al0 xl1 xl2 xl3 → AW G p l e R s m args below meth c 9 (QM G (pI post) args s below n0 s0) 65 [(0, .ref (G.1 + al0)), (1, .int xl1), (2, .int xl2), (3, .int xl3)] [] h) {h : AH} {al0 : Nat} {xl1 : Int32} {xl2 : Int32} {xl3 : Int32} {xl5 : Int32} {xs0 : Int32} {xs1 : Int32} {as2 : Nat} (hw : wb_X12_all_175 K65 h al0 xl1 xl2 xl3 xl5 xs0 xs1 as2 post) : AW G p l e R s m args below meth c 9 (QM G (pI post) args s below n0 s0) 175 [(0, .ref (G.1 + al0)), (1, .int xl1), (2, .int xl2), (3, .int xl3), (5, .int xl5)] [.int xs0, .int xs1, .ref (G.1 + as2)] h := by
  unfold wb_X12_all_175 at hw
  refine r_iastore C hw.1 hw.2.1 dX12_all_175 ?_
  replace hw := hw.2.2
  refine r_toph fun hv1 ehv1 => ?_
  replace hw := hw hv1 ehv1
  refine r_iload C dX12_all_176 4 rfl ?_
  refine r_if_eq C dX12_all_178 202 (by decide) (fun hc => ?_) (fun hc => ?_)
  · replace hw := hw.1 hc
    refine r_sub [0, 1, 2, 3] rfl ?_
    exact tb_X12_all_202 C hr hK65 hw
  · replace hw := hw.2 hc
    refine r_aload_n C dX12_all_181 0 rfl ?_
    have hob := hw.1
    obtain ⟨rv2, hp, hw⟩ := hw.2
    refine r_getP C fl_RX12_53_11 hob hp (fun _ _ _ => rfl) dX12_all_182 ?_
    refine r_iconst (v := 3) C dX12_all_185 (by decide) ?_
    refine r_iload_n C dX12_all_186 3 rfl ?_
    refine r_imul C dX12_all_187 ?_
    refine r_iaload C hw.1 hw.2.1 dX12_all_188 ?_
    replace hw := hw.2.2
    refine r_aload_n C dX12_all_189 0 rfl ?_
    have hob := hw.1
    obtain ⟨rv3, hp, hw⟩ := hw.2
    refine r_getP C fl_RX12_53_11 hob hp (fun _ _ _ => rfl) dX12_all_190 ?_
    refine r_iconst (v := 3) C dX12_all_193 (by decide) ?_
    refine r_iload_n C dX12_all_194 3 rfl ?_
    refine r_imul C dX12_all_195 ?_
    refine r_iconst (v := 1) C dX12_all_196 (by decide) ?_
    refine r_iadd C dX12_all_197 ?_
    refine r_iaload C hw.1 hw.2.1 dX12_all_198 ?_
    replace hw := hw.2.2
    refine r_icmp_eq C dX12_all_199 65 (by decide) (fun hc => ?_) (fun hc => ?_)
    · replace hw := hw.1 hc
      refine r_sub [0, 1, 2, 3] rfl ?_
      exact hK65 _ _ _ _ _ hw
    · replace hw := hw.2 hc
      refine r_sub [0, 1, 2, 3] rfl ?_
      exact tb_X12_all_202 C hr hK65 hw
def wb_X12_all_112 (K65 : AH → Nat → Int32 → Int32 → Int32 → Prop) (h : AH) (al0 : Nat) (xl1 : Int32) (xl2 : Int32) (xl3 : Int32) (xl4 : Int32) (xs0 : Int32) (post : AH → Int32 → Prop) : Prop := (¬ xl1 = 0) ∧ (∀ iv1 : Int32, iv1 = xl4 - xl4 / xl1 * xl1 → ((ob h al0 11) ∧ (∃ rv2, aP h al0 24 = some rv2 ∧ ((ob h al0 11) ∧ (∃ rv3, aP h al0 6 = some rv3 ∧ ((ob h rv3 13) ∧ ((vp_in 0 (aL h rv3)) ∧ ((¬ (aI h rv3 (0 : Int32).toNatClampNeg) = 0) ∧ ((ob h rv2 13) ∧ ((vp_in ((3 : Int32) * xl3) (aL h rv2)) ∧ (∀ hv4 : AH, hv4 = hI h rv2 ((3 : Int32) * xl3).toNatClampNeg (iv1 - iv1 / (aI h rv3 (0 : Int32).toNatClampNeg) * (aI h rv3 (0 : Int32).toNatClampNeg)) → ((ob hv4 al0 11) ∧ (∃ rv5, aP hv4 al0 24 = some rv5 ∧ ((ob hv4 al0 11) ∧ (∃ rv6, aP hv4 al0 6 = some rv6 ∧ ((ob hv4 rv6 13) ∧ ((vp_in 0 (aL hv4 rv6)) ∧ ((¬ (aI hv4 rv6 (0 : Int32).toNatClampNeg) = 0) ∧ ((ob hv4 rv5 13) ∧ ((vp_in (((3 : Int32) * xl3) + (1 : Int32)) (aL hv4 rv5)) ∧ (∀ hv7 : AH, hv7 = hI hv4 rv5 (((3 : Int32) * xl3) + (1 : Int32)).toNatClampNeg (iv1 / (aI hv4 rv6 (0 : Int32).toNatClampNeg)) → ((ob hv7 al0 11) ∧ (∃ rv8, aP hv7 al0 24 = some rv8 ∧ ((xs0 = 0 → (wb_X12_all_175 K65 hv7 al0 xl1 xl2 xl3 xs0 0 (((3 : Int32) * xl3) + (2 : Int32)) rv8 post)) ∧ (¬ xs0 = 0 → (wb_X12_all_175 K65 hv7 al0 xl1 xl2 xl3 xs0 1 (((3 : Int32) * xl3) + (2 : Int32)) rv8 post))))))))))))))))))))))))))
set_option maxRecDepth 100000 in
theorem tb_X12_all_112 {G : GG} {p : Program} {l : Launch} {e : Env} {R : Room} {s : State} {m : MethodId} {args : Array Value} {below : List Frame} {meth : Method} {c : Code} {n0 s0 : Nat} {post : AH → Int32 → Prop} (C : Cx G p R s m args meth c 9 cX12_all RX12 n0 s0 5 114) (hr : meth.sig.returnType = (some .int)) {K65 : AH → Nat → Int32 → Int32 → Int32 → Prop} (hK65 : ∀ (h : AH) (al0 : Nat) (xl1 : Int32) (xl2 : Int32) (xl3 : Int32), K65 h al0 xl1 xl2 xl3 → AW G p l e R s m args below meth c 9 (QM G (pI post) args s below n0 s0) 65 [(0, .ref (G.1 + al0)), (1, .int xl1), (2, .int xl2), (3, .int xl3)] [] h) {h : AH} {al0 : Nat} {xl1 : Int32} {xl2 : Int32} {xl3 : Int32} {xl4 : Int32} {xs0 : Int32} (hw : wb_X12_all_112 K65 h al0 xl1 xl2 xl3 xl4 xs0 post) : AW G p l e R s m args below meth c 9 (QM G (pI post) args s below n0 s0) 112 [(0, .ref (G.1 + al0)), (1, .int xl1), (2, .int xl2), (3, .int xl3), (4, .int xl4)] [.int xs0] h := by
  unfold wb_X12_all_112 at hw
  refine r_istore C dX12_all_112 [(5, .int xs0), (0, .ref (G.1 + al0)), (1, .int xl1), (2, .int xl2), (3, .int xl3), (4, .int xl4)] (by decide) rfl ?_
  refine r_iload C dX12_all_114 5 rfl ?_
  refine r_iload_n C dX12_all_116 2 rfl ?_
  refine r_irem C dX12_all_117 hw.1 ?_
  replace hw := hw.2
  refine r_topi fun iv1 eiv1 => ?_
  replace hw := hw iv1 eiv1
  refine r_istore C dX12_all_118 [(6, .int iv1), (5, .int xs0), (0, .ref (G.1 + al0)), (1, .int xl1), (2, .int xl2), (3, .int xl3), (4, .int xl4)] (by decide) rfl ?_
  refine r_aload_n C dX12_all_120 2 rfl ?_
  have hob := hw.1
  obtain ⟨rv2, hp, hw⟩ := hw.2
  refine r_getP C fl_RX12_50_11 hob hp (fun _ _ _ => rfl) dX12_all_121 ?_
  refine r_iconst (v := 3) C dX12_all_124 (by decide) ?_
  refine r_iload_n C dX12_all_125 5 rfl ?_
  refine r_imul C dX12_all_126 ?_
  refine r_iload C dX12_all_127 0 rfl ?_
  refine r_aload_n C dX12_all_129 2 rfl ?_
  have hob := hw.1
  obtain ⟨rv3, hp, hw⟩ := hw.2
  refine r_getP C fl_RX12_33_11 hob hp (fun _ _ _ => rfl) dX12_all_130 ?_
  refine r_iconst (v := 0) C dX12_all_133 (by decide) ?_
  refine r_iaload C hw.1 hw.2.1 dX12_all_134 ?_
  replace hw := hw.2.2
  refine r_irem C dX12_all_135 hw.1 ?_
  replace hw := hw.2
  refine r_iastore C hw.1 hw.2.1 dX12_all_136 ?_
  replace hw := hw.2.2
  refine r_toph fun hv4 ehv4 => ?_
  replace hw := hw hv4 ehv4
  refine r_aload_n C dX12_all_137 2 rfl ?_
  have hob := hw.1
  obtain ⟨rv5, hp, hw⟩ := hw.2
  refine r_getP C fl_RX12_50_11 hob hp (fun _ _ _ => rfl) dX12_all_138 ?_
  refine r_iconst (v := 3) C dX12_all_141 (by decide) ?_
  refine r_iload_n C dX12_all_142 5 rfl ?_
  refine r_imul C dX12_all_143 ?_
  refine r_iconst (v := 1) C dX12_all_144 (by decide) ?_
  refine r_iadd C dX12_all_145 ?_
  refine r_iload C dX12_all_146 0 rfl ?_
  refine r_aload_n C dX12_all_148 2 rfl ?_
  have hob := hw.1
  obtain ⟨rv6, hp, hw⟩ := hw.2
  refine r_getP C fl_RX12_33_11 hob hp (fun _ _ _ => rfl) dX12_all_149 ?_
  refine r_iconst (v := 0) C dX12_all_152 (by decide) ?_
  refine r_iaload C hw.1 hw.2.1 dX12_all_153 ?_
  replace hw := hw.2.2
  refine r_idiv C dX12_all_154 hw.1 ?_
  replace hw := hw.2
  refine r_iastore C hw.1 hw.2.1 dX12_all_155 ?_
  replace hw := hw.2.2
  refine r_toph fun hv7 ehv7 => ?_
  replace hw := hw hv7 ehv7
  refine r_aload_n C dX12_all_156 2 rfl ?_
  have hob := hw.1
  obtain ⟨rv8, hp, hw⟩ := hw.2
  refine r_getP C fl_RX12_50_11 hob hp (fun _ _ _ => rfl) dX12_all_157 ?_
  refine r_iconst (v := 3) C dX12_all_160 (by decide) ?_
  refine r_iload_n C dX12_all_161 5 rfl ?_
  refine r_imul C dX12_all_162 ?_
  refine r_iconst (v := 2) C dX12_all_163 (by decide) ?_
  refine r_iadd C dX12_all_164 ?_
  refine r_iload C dX12_all_165 1 rfl ?_
  refine r_if_eq C dX12_all_167 174 (by decide) (fun hc => ?_) (fun hc => ?_)
  · replace hw := hw.1 hc
    refine r_iconst (v := 0) C dX12_all_174 (by decide) ?_
    refine r_sub [2, 3, 4, 5, 1] rfl ?_
    exact tb_X12_all_175 C hr hK65 hw
  · replace hw := hw.2 hc
    refine r_iconst (v := 1) C dX12_all_170 (by decide) ?_
    refine r_goto C dX12_all_171 175 (by decide) ?_
    refine r_sub [2, 3, 4, 5, 1] rfl ?_
    exact tb_X12_all_175 C hr hK65 hw
def wb_X12_all_65 (K65 : AH → Nat → Int32 → Int32 → Int32 → Prop) (h : AH) (al0 : Nat) (xl1 : Int32) (xl2 : Int32) (xl3 : Int32)  (post : AH → Int32 → Prop) : Prop := (xl3 < 0 → (post h xl2)) ∧ (¬ xl3 < 0 → ((ob h al0 11) ∧ (∃ rv1, aP h al0 46 = some rv1 ∧ ((ob h rv1 13) ∧ ((vp_in xl3 (aL h rv1)) ∧ (∀ iv2 : Int32, iv2 = aI h rv1 xl3.toNatClampNeg → ((ob h al0 11) ∧ (∃ rv3, aP h al0 46 = some rv3 ∧ ((ob h rv3 13) ∧ ((vp_in xl3 (aL h rv3)) ∧ ((ob h rv3 13) ∧ ((vp_in xl3 (aL h rv3)) ∧ (∀ hv4 : AH, hv4 = hI h rv3 xl3.toNatClampNeg ((aI h rv3 xl3.toNatClampNeg) + (1 : Int32)) → ((iv2 < ((2 : Int32) * xl1) → ((iv2 < xl1 → (wb_X12_all_112 K65 hv4 al0 xl1 xl2 xl3 iv2 0 post)) ∧ (¬ iv2 < xl1 → (wb_X12_all_112 K65 hv4 al0 xl1 xl2 xl3 iv2 1 post)))) ∧ (¬ iv2 < ((2 : Int32) * xl1) → (∀ iv5 : Int32, iv5 = xl3 + (-1) → (K65 hv4 al0 xl1 xl2 iv5)))))))))))))))))
set_option maxRecDepth 100000 in
theorem tb_X12_all_65 {G : GG} {p : Program} {l : Launch} {e : Env} {R : Room} {s : State} {m : MethodId} {args : Array Value} {below : List Frame} {meth : Method} {c : Code} {n0 s0 : Nat} {post : AH → Int32 → Prop} (C : Cx G p R s m args meth c 9 cX12_all RX12 n0 s0 5 114) (hr : meth.sig.returnType = (some .int)) {K65 : AH → Nat → Int32 → Int32 → Int32 → Prop} (hK65 : ∀ (h : AH) (al0 : Nat) (xl1 : Int32) (xl2 : Int32) (xl3 : Int32), K65 h al0 xl1 xl2 xl3 → AW G p l e R s m args below meth c 9 (QM G (pI post) args s below n0 s0) 65 [(0, .ref (G.1 + al0)), (1, .int xl1), (2, .int xl2), (3, .int xl3)] [] h) {h : AH} {al0 : Nat} {xl1 : Int32} {xl2 : Int32} {xl3 : Int32}  (hw : wb_X12_all_65 K65 h al0 xl1 xl2 xl3 post) : AW G p l e R s m args below meth c 9 (QM G (pI post) args s below n0 s0) 65 [(0, .ref (G.1 + al0)), (1, .int xl1), (2, .int xl2), (3, .int xl3)] [] h := by
  unfold wb_X12_all_65 at hw
  refine r_iload_n C dX12_all_65 3 rfl ?_
  refine r_if_lt C dX12_all_66 320 (by decide) (fun hc => ?_) (fun hc => ?_)
  · replace hw := hw.1 hc
    refine r_iload_n C dX12_all_320 2 rfl ?_
    exact r_iret C hr dX12_all_321 hw
  · replace hw := hw.2 hc
    refine r_aload_n C dX12_all_69 0 rfl ?_
    have hob := hw.1
    obtain ⟨rv1, hp, hw⟩ := hw.2
    refine r_getP C fl_RX12_96_11 hob hp (fun _ _ _ => rfl) dX12_all_70 ?_
    refine r_iload_n C dX12_all_73 3 rfl ?_
    refine r_iaload C hw.1 hw.2.1 dX12_all_74 ?_
    replace hw := hw.2.2
    refine r_topi fun iv2 eiv2 => ?_
    replace hw := hw iv2 eiv2
    refine r_istore C dX12_all_75 [(4, .int iv2), (0, .ref (G.1 + al0)), (1, .int xl1), (2, .int xl2), (3, .int xl3)] (by decide) rfl ?_
    refine r_aload_n C dX12_all_77 1 rfl ?_
    have hob := hw.1
    obtain ⟨rv3, hp, hw⟩ := hw.2
    refine r_getP C fl_RX12_96_11 hob hp (fun _ _ _ => rfl) dX12_all_78 ?_
    refine r_iload_n C dX12_all_81 4 rfl ?_
    refine r_dup2 C dX12_all_82 rfl rfl ?_
    refine r_iaload C hw.1 hw.2.1 dX12_all_83 ?_
    replace hw := hw.2.2
    refine r_iconst (v := 1) C dX12_all_84 (by decide) ?_
    refine r_iadd C dX12_all_85 ?_
    refine r_iastore C hw.1 hw.2.1 dX12_all_86 ?_
    replace hw := hw.2.2
    refine r_toph fun hv4 ehv4 => ?_
    replace hw := hw hv4 ehv4
    refine r_iload C dX12_all_87 0 rfl ?_
    refine r_iconst (v := 2) C dX12_all_89 (by decide) ?_
    refine r_iload_n C dX12_all_90 2 rfl ?_
    refine r_imul C dX12_all_91 ?_
    refine r_icmp_lt C dX12_all_92 101 (by decide) (fun hc => ?_) (fun hc => ?_)
    · replace hw := hw.1 hc
      refine r_iload C dX12_all_101 0 rfl ?_
      refine r_iload_n C dX12_all_103 2 rfl ?_
      refine r_icmp_lt C dX12_all_104 111 (by decide) (fun hc => ?_) (fun hc => ?_)
      · replace hw := hw.1 hc
        refine r_iconst (v := 0) C dX12_all_111 (by decide) ?_
        refine r_sub [1, 2, 3, 4, 0] rfl ?_
        exact tb_X12_all_112 C hr hK65 hw
      · replace hw := hw.2 hc
        refine r_iconst (v := 1) C dX12_all_107 (by decide) ?_
        refine r_goto C dX12_all_108 112 (by decide) ?_
        refine r_sub [1, 2, 3, 4, 0] rfl ?_
        exact tb_X12_all_112 C hr hK65 hw
    · replace hw := hw.2 hc
      obtain ⟨iv5, eiv5⟩ : ∃ q : Int32, q = xl3 + (-1) := ⟨_, rfl⟩
      replace hw := hw iv5 eiv5
      refine r_iinc C dX12_all_95 4 rfl (by rw [eiv5]; rfl) [(3, .int iv5), (4, .int iv2), (0, .ref (G.1 + al0)), (1, .int xl1), (2, .int xl2)] (by decide) rfl ?_
      refine r_goto C dX12_all_98 65 (by decide) ?_
      refine r_sub [2, 3, 4, 0] rfl ?_
      exact hK65 _ _ _ _ _ hw
def wl_X12_all_65  (post : AH → Int32 → Prop) : Nat → AH → Nat → Int32 → Int32 → Int32 → Prop
  | 0 => fun _ _ _ _ _ => False
  | n + 1 => fun h al0 xl1 xl2 xl3 => wb_X12_all_65  (wl_X12_all_65  post n) h al0 xl1 xl2 xl3 post
theorem tl_X12_all_65 {G : GG} {p : Program} {l : Launch} {e : Env} {R : Room} {s : State} {m : MethodId} {args : Array Value} {below : List Frame} {meth : Method} {c : Code} {n0 s0 : Nat} {post : AH → Int32 → Prop} (C : Cx G p R s m args meth c 9 cX12_all RX12 n0 s0 5 114) (hr : meth.sig.returnType = (some .int))   : ∀ (n : Nat) (h : AH) (al0 : Nat) (xl1 : Int32) (xl2 : Int32) (xl3 : Int32), wl_X12_all_65  post n h al0 xl1 xl2 xl3 → AW G p l e R s m args below meth c 9 (QM G (pI post) args s below n0 s0) 65 [(0, .ref (G.1 + al0)), (1, .int xl1), (2, .int xl2), (3, .int xl3)] [] h := by
  intro n
  induction n with
  | zero => intro h al0 xl1 xl2 xl3 hw; exact hw.elim
  | succ n ih => intro h al0 xl1 xl2 xl3 hw; exact tb_X12_all_65 C hr  ih hw
def wp_X12_all (h : AH) (a0 : Nat) (post : AH → Int32 → Prop) : Prop := (ob h a0 11) ∧ (∀ hv1 : AH, hv1 = hI h a0 0 0 → ((ob hv1 a0 11) ∧ wp_X12_isFew hv1 a0  (fun hv2 iv3 => (¬ iv3 = 0 → ((ob hv2 a0 11) ∧ wp_X12_asItIs hv2 a0  (fun hv4  => (ob hv4 a0 11) ∧ (∃ rv5, aP hv4 a0 6 = some rv5 ∧ ((ob hv4 rv5 13) ∧ ((vp_in 0 (aL hv4 rv5)) ∧ ((ob hv4 a0 11) ∧ (∃ rv6, aP hv4 a0 6 = some rv6 ∧ ((ob hv4 rv6 13) ∧ ((vp_in 1 (aL hv4 rv6)) ∧ (∀ iv7 : Int32, iv7 = (aI hv4 rv5 (0 : Int32).toNatClampNeg) * (aI hv4 rv6 (1 : Int32).toNatClampNeg) → ((ob hv4 a0 11) ∧ (∃ rv8, aP hv4 a0 6 = some rv8 ∧ ((ob hv4 rv8 13) ∧ ((vp_in 2 (aL hv4 rv8)) ∧ ((¬ (aI hv4 rv8 (2 : Int32).toNatClampNeg) = 0 → ((ob hv4 a0 11) ∧ (∃ rv9, aP hv4 a0 46 = some rv9 ∧ ((ob hv4 rv9 13) ∧ ((vp_in 0 (aL hv4 rv9)) ∧ (∀ hv10 : AH, hv10 = hI hv4 rv9 (0 : Int32).toNatClampNeg 0 → (∃ n, wl_X12_all_65  post n hv10 a0 iv7 (-1) 0))))))) ∧ ((aI hv4 rv8 (2 : Int32).toNatClampNeg) = 0 → ((ob hv4 a0 11) ∧ (∀ hv11 : AH, hv11 = hI hv4 a0 48 0 → ((ob hv11 a0 11) ∧ (∀ hv12 : AH, hv12 = hI hv11 a0 49 0 → (post hv12 0)))))))))))))))))))))) ∧ (iv3 = 0 → (post hv2 (-2))))))
set_option maxRecDepth 100000 in
theorem c_X12_all (G : GG) (h : AH) (a0 : Nat) (post : AH → Int32 → Prop) (hw : wp_X12_all h a0 post) : MC G yX12_all cX12_all 9 (some .int) 5 114 h [.ref (G.1 + a0)] (pI post) := by
  refine MC.of (lv := [(0, .ref (G.1 + a0))]) (by decide) (Nat.le_of_ble_eq_true rfl) rfl fun p l e R s m args below meth c C hr hnm => ?_
  unfold wp_X12_all at hw
  refine r_aload_n C dX12_all_0 0 rfl ?_
  refine r_iconst (v := 0) C dX12_all_1 (by decide) ?_
  refine r_putI C fp_RX12_1_11 hw.1 rfl dX12_all_2 ?_
  replace hw := hw.2
  refine r_toph fun hv1 ehv1 => ?_
  replace hw := hw hv1 ehv1
  refine r_aload_n C dX12_all_5 0 rfl ?_
  have hob := hw.1
  replace hw := hw.2
  refine r_callV C (As := []) (rest := []) (c_X12_isFew G hv1 a0  _ hw) yl_X12_isFew (gm8 (List.mem_of_getElem? (i := 212) rfl) rfl) (gm8 (List.mem_of_getElem? (i := 214) rfl) rfl) (ci := 11) rfl (by decide) (gsel (List.mem_of_getElem? (i := 92) rfl)) hob (by decide) rfl (Nat.le_of_ble_eq_true rfl) dX12_all_6 rfl (kI fun hv2 iv3 hw => ?_)
  refine r_if_ne C dX12_all_9 15 (by decide) (fun hc => ?_) (fun hc => ?_)
  · replace hw := hw.1 hc
    refine r_aload_n C dX12_all_15 0 rfl ?_
    have hob := hw.1
    replace hw := hw.2
    refine r_callV C (As := []) (rest := []) (c_X12_asItIs G hv2 a0  _ hw) yl_X12_asItIs (gm8 (List.mem_of_getElem? (i := 57) rfl) rfl) (gm8 (List.mem_of_getElem? (i := 59) rfl) rfl) (ci := 11) rfl (by decide) (gsel (List.mem_of_getElem? (i := 70) rfl)) hob (by decide) rfl (Nat.le_of_ble_eq_true rfl) dX12_all_16 rfl (kV fun hv4  hw => ?_)
    refine r_aload_n C dX12_all_19 0 rfl ?_
    have hob := hw.1
    obtain ⟨rv5, hp, hw⟩ := hw.2
    refine r_getP C fl_RX12_33_11 hob hp (fun _ _ _ => rfl) dX12_all_20 ?_
    refine r_iconst (v := 0) C dX12_all_23 (by decide) ?_
    refine r_iaload C hw.1 hw.2.1 dX12_all_24 ?_
    replace hw := hw.2.2
    refine r_aload_n C dX12_all_25 0 rfl ?_
    have hob := hw.1
    obtain ⟨rv6, hp, hw⟩ := hw.2
    refine r_getP C fl_RX12_33_11 hob hp (fun _ _ _ => rfl) dX12_all_26 ?_
    refine r_iconst (v := 1) C dX12_all_29 (by decide) ?_
    refine r_iaload C hw.1 hw.2.1 dX12_all_30 ?_
    replace hw := hw.2.2
    refine r_imul C dX12_all_31 ?_
    refine r_topi fun iv7 eiv7 => ?_
    replace hw := hw iv7 eiv7
    refine r_istore_n C dX12_all_32 [(1, .int iv7), (0, .ref (G.1 + a0))] (by decide) rfl ?_
    refine r_iconst (v := (-1)) C dX12_all_33 (by decide) ?_
    refine r_istore_n C dX12_all_34 [(2, .int (-1)), (1, .int iv7), (0, .ref (G.1 + a0))] (by decide) rfl ?_
    refine r_iconst (v := 0) C dX12_all_35 (by decide) ?_
    refine r_istore_n C dX12_all_36 [(3, .int 0), (2, .int (-1)), (1, .int iv7), (0, .ref (G.1 + a0))] (by decide) rfl ?_
    refine r_aload_n C dX12_all_37 3 rfl ?_
    have hob := hw.1
    obtain ⟨rv8, hp, hw⟩ := hw.2
    refine r_getP C fl_RX12_33_11 hob hp (fun _ _ _ => rfl) dX12_all_38 ?_
    refine r_iconst (v := 2) C dX12_all_41 (by decide) ?_
    refine r_iaload C hw.1 hw.2.1 dX12_all_42 ?_
    replace hw := hw.2.2
    refine r_if_ne C dX12_all_43 58 (by decide) (fun hc => ?_) (fun hc => ?_)
    · replace hw := hw.1 hc
      refine r_aload_n C dX12_all_58 3 rfl ?_
      have hob := hw.1
      obtain ⟨rv9, hp, hw⟩ := hw.2
      refine r_getP C fl_RX12_96_11 hob hp (fun _ _ _ => rfl) dX12_all_59 ?_
      refine r_iconst (v := 0) C dX12_all_62 (by decide) ?_
      refine r_iconst (v := 0) C dX12_all_63 (by decide) ?_
      refine r_iastore C hw.1 hw.2.1 dX12_all_64 ?_
      replace hw := hw.2.2
      refine r_toph fun hv10 ehv10 => ?_
      replace hw := hw hv10 ehv10
      refine r_sub [3, 2, 1, 0] rfl ?_
      obtain ⟨n, hw⟩ := hw
      exact tl_X12_all_65 C hr  n _ _ _ _ _ hw
    · replace hw := hw.2 hc
      refine r_aload_n C dX12_all_46 3 rfl ?_
      refine r_iconst (v := 0) C dX12_all_47 (by decide) ?_
      refine r_putI C fp_RX12_102_11 hw.1 rfl dX12_all_48 ?_
      replace hw := hw.2
      refine r_toph fun hv11 ehv11 => ?_
      replace hw := hw hv11 ehv11
      refine r_aload_n C dX12_all_51 3 rfl ?_
      refine r_iconst (v := 0) C dX12_all_52 (by decide) ?_
      refine r_putI C fp_RX12_432_11 hw.1 rfl dX12_all_53 ?_
      replace hw := hw.2
      refine r_toph fun hv12 ehv12 => ?_
      replace hw := hw hv12 ehv12
      refine r_iconst (v := 0) C dX12_all_56 (by decide) ?_
      exact r_iret C hr dX12_all_57 hw
  · replace hw := hw.2 hc
    refine r_bipush (v := (-2)) C dX12_all_12 (by decide) ?_
    exact r_iret C hr dX12_all_14 hw
theorem dX12_allAt_0 : decode cX12_allAt 0 = .ok (.aload_n 0, 1) := by decide +kernel
theorem dX12_allAt_1 : decode cX12_allAt 1 = .ok (.iconst 0, 1) := by decide +kernel
theorem dX12_allAt_2 : decode cX12_allAt 2 = .ok (.putfield 1, 3) := by decide +kernel
theorem dX12_allAt_5 : decode cX12_allAt 5 = .ok (.iload_n 1, 1) := by decide +kernel
theorem dX12_allAt_6 : decode cX12_allAt 6 = .ok (.iconst 0, 1) := by decide +kernel
theorem dX12_allAt_7 : decode cX12_allAt 7 = .ok (.aload_n 0, 1) := by decide +kernel
theorem dX12_allAt_8 : decode cX12_allAt 8 = .ok (.getfield 102, 3) := by decide +kernel
theorem dX12_allAt_11 : decode cX12_allAt 11 = .ok (.iconst 1, 1) := by decide +kernel
theorem dX12_allAt_12 : decode cX12_allAt 12 = .ok (.isub, 1) := by decide +kernel
theorem dX12_allAt_13 : decode cX12_allAt 13 = .ok (.invokestatic 196, 3) := by decide +kernel
theorem dX12_allAt_16 : decode cX12_allAt 16 = .ok (.ifCond .eq 25, 3) := by decide +kernel
theorem dX12_allAt_19 : decode cX12_allAt 19 = .ok (.iload_n 2, 1) := by decide +kernel
theorem dX12_allAt_20 : decode cX12_allAt 20 = .ok (.iconst 0, 1) := by decide +kernel
theorem dX12_allAt_21 : decode cX12_allAt 21 = .ok (.iconst 2, 1) := by decide +kernel
theorem dX12_allAt_22 : decode cX12_allAt 22 = .ok (.invokestatic 196, 3) := by decide +kernel
theorem dX12_allAt_25 : decode cX12_allAt 25 = .ok (.ifCond .eq 16, 3) := by decide +kernel
theorem dX12_allAt_28 : decode cX12_allAt 28 = .ok (.aload_n 0, 1) := by decide +kernel
theorem dX12_allAt_29 : decode cX12_allAt 29 = .ok (.getfield 99, 3) := by decide +kernel
theorem dX12_allAt_32 : decode cX12_allAt 32 = .ok (.iconst 3, 1) := by decide +kernel
theorem dX12_allAt_33 : decode cX12_allAt 33 = .ok (.iload_n 1, 1) := by decide +kernel
theorem dX12_allAt_34 : decode cX12_allAt 34 = .ok (.imul, 1) := by decide +kernel
theorem dX12_allAt_35 : decode cX12_allAt 35 = .ok (.iload_n 2, 1) := by decide +kernel
theorem dX12_allAt_36 : decode cX12_allAt 36 = .ok (.iadd, 1) := by decide +kernel
theorem dX12_allAt_37 : decode cX12_allAt 37 = .ok (.iaload, 1) := by decide +kernel
theorem dX12_allAt_38 : decode cX12_allAt 38 = .ok (.goto 4, 3) := by decide +kernel
theorem dX12_allAt_41 : decode cX12_allAt 41 = .ok (.iconst (-1), 1) := by decide +kernel
theorem dX12_allAt_42 : decode cX12_allAt 42 = .ok (.ireturn, 1) := by decide +kernel
def wp_X12_allAt (h : AH) (a0 : Nat) (x1 : Int32) (x2 : Int32) (post : AH → Int32 → Prop) : Prop := (ob h a0 11) ∧ (∀ hv1 : AH, hv1 = hI h a0 0 0 → ((ob hv1 a0 11) ∧ (wp_X12_isIn hv1 x1 0 ((aI hv1 a0 48) - (1 : Int32)) (fun hv2 iv3 => (iv3 = 0 → (post hv2 (-1))) ∧ (¬ iv3 = 0 → (wp_X12_isIn hv2 x2 0 2 (fun hv4 iv5 => (iv5 = 0 → (post hv4 (-1))) ∧ (¬ iv5 = 0 → ((ob hv4 a0 11) ∧ (∃ rv6, aP hv4 a0 47 = some rv6 ∧ ((ob hv4 rv6 13) ∧ ((vp_in (((3 : Int32) * x1) + x2) (aL hv4 rv6)) ∧ (post hv4 (aI hv4 rv6 (((3 : Int32) * x1) + x2).toNatClampNeg))))))))))))))
set_option maxRecDepth 100000 in
theorem c_X12_allAt (G : GG) (h : AH) (a0 : Nat) (x1 : Int32) (x2 : Int32) (post : AH → Int32 → Prop) (hw : wp_X12_allAt h a0 x1 x2 post) : MC G yX12_allAt cX12_allAt 3 (some .int) 1 22 h [.ref (G.1 + a0), .int x1, .int x2] (pI post) := by
  refine MC.of (lv := [(0, .ref (G.1 + a0)), (1, .int x1), (2, .int x2)]) (by decide) (Nat.le_of_ble_eq_true rfl) rfl fun p l e R s m args below meth c C hr hnm => ?_
  unfold wp_X12_allAt at hw
  refine r_aload_n C dX12_allAt_0 0 rfl ?_
  refine r_iconst (v := 0) C dX12_allAt_1 (by decide) ?_
  refine r_putI C fp_RX12_1_11 hw.1 rfl dX12_allAt_2 ?_
  replace hw := hw.2
  refine r_toph fun hv1 ehv1 => ?_
  replace hw := hw hv1 ehv1
  refine r_iload_n C dX12_allAt_5 1 rfl ?_
  refine r_iconst (v := 0) C dX12_allAt_6 (by decide) ?_
  refine r_aload_n C dX12_allAt_7 0 rfl ?_
  refine r_getI C fl_RX12_102_11 hw.1 (fun _ _ _ => rfl) dX12_allAt_8 ?_
  replace hw := hw.2
  refine r_iconst (v := 1) C dX12_allAt_11 (by decide) ?_
  refine r_isub C dX12_allAt_12 ?_
  refine r_callS C (As := [.int x1, .int 0, .int ((aI hv1 a0 48) - (1 : Int32))]) (rest := []) (c_X12_isIn G hv1 x1 0 ((aI hv1 a0 48) - (1 : Int32)) _ hw) yl_X12_isIn (gm7 (List.mem_of_getElem? (i := 189) rfl) rfl) (gm7 (List.mem_of_getElem? (i := 190) rfl) rfl) (by decide) rfl (Nat.le_of_ble_eq_true rfl) dX12_allAt_13 rfl (kI fun hv2 iv3 hw => ?_)
  refine r_if_eq C dX12_allAt_16 41 (by decide) (fun hc => ?_) (fun hc => ?_)
  · replace hw := hw.1 hc
    refine r_iconst (v := (-1)) C dX12_allAt_41 (by decide) ?_
    exact r_iret C hr dX12_allAt_42 hw
  · replace hw := hw.2 hc
    refine r_iload_n C dX12_allAt_19 2 rfl ?_
    refine r_iconst (v := 0) C dX12_allAt_20 (by decide) ?_
    refine r_iconst (v := 2) C dX12_allAt_21 (by decide) ?_
    refine r_callS C (As := [.int x2, .int 0, .int 2]) (rest := []) (c_X12_isIn G hv2 x2 0 2 _ hw) yl_X12_isIn (gm7 (List.mem_of_getElem? (i := 189) rfl) rfl) (gm7 (List.mem_of_getElem? (i := 190) rfl) rfl) (by decide) rfl (Nat.le_of_ble_eq_true rfl) dX12_allAt_22 rfl (kI fun hv4 iv5 hw => ?_)
    refine r_if_eq C dX12_allAt_25 41 (by decide) (fun hc => ?_) (fun hc => ?_)
    · replace hw := hw.1 hc
      refine r_iconst (v := (-1)) C dX12_allAt_41 (by decide) ?_
      exact r_iret C hr dX12_allAt_42 hw
    · replace hw := hw.2 hc
      refine r_aload_n C dX12_allAt_28 0 rfl ?_
      have hob := hw.1
      obtain ⟨rv6, hp, hw⟩ := hw.2
      refine r_getP C fl_RX12_99_11 hob hp (fun _ _ _ => rfl) dX12_allAt_29 ?_
      refine r_iconst (v := 3) C dX12_allAt_32 (by decide) ?_
      refine r_iload_n C dX12_allAt_33 1 rfl ?_
      refine r_imul C dX12_allAt_34 ?_
      refine r_iload_n C dX12_allAt_35 2 rfl ?_
      refine r_iadd C dX12_allAt_36 ?_
      refine r_iaload C hw.1 hw.2.1 dX12_allAt_37 ?_
      replace hw := hw.2.2
      refine r_goto C dX12_allAt_38 42 (by decide) ?_
      exact r_iret C hr dX12_allAt_42 hw
theorem dX12_left_0 : decode cX12_left 0 = .ok (.aload_n 0, 1) := by decide +kernel
theorem dX12_left_1 : decode cX12_left 1 = .ok (.iconst 0, 1) := by decide +kernel
theorem dX12_left_2 : decode cX12_left 2 = .ok (.putfield 1, 3) := by decide +kernel
theorem dX12_left_5 : decode cX12_left 5 = .ok (.aload_n 0, 1) := by decide +kernel
theorem dX12_left_6 : decode cX12_left 6 = .ok (.getfield 102, 3) := by decide +kernel
theorem dX12_left_9 : decode cX12_left 9 = .ok (.ifCond .ge 7, 3) := by decide +kernel
theorem dX12_left_12 : decode cX12_left 12 = .ok (.iconst (-1), 1) := by decide +kernel
theorem dX12_left_13 : decode cX12_left 13 = .ok (.goto 7, 3) := by decide +kernel
theorem dX12_left_16 : decode cX12_left 16 = .ok (.aload_n 0, 1) := by decide +kernel
theorem dX12_left_17 : decode cX12_left 17 = .ok (.getfield 432, 3) := by decide +kernel
theorem dX12_left_20 : decode cX12_left 20 = .ok (.ireturn, 1) := by decide +kernel
def wp_X12_left (h : AH) (a0 : Nat) (post : AH → Int32 → Prop) : Prop := (ob h a0 11) ∧ (∀ hv1 : AH, hv1 = hI h a0 0 0 → ((ob hv1 a0 11) ∧ ((0 ≤ (aI hv1 a0 48) → ((ob hv1 a0 11) ∧ (post hv1 (aI hv1 a0 49)))) ∧ (¬ 0 ≤ (aI hv1 a0 48) → (post hv1 (-1))))))
set_option maxRecDepth 100000 in
theorem c_X12_left (G : GG) (h : AH) (a0 : Nat) (post : AH → Int32 → Prop) (hw : wp_X12_left h a0 post) : MC G yX12_left cX12_left 1 (some .int) 0 0 h [.ref (G.1 + a0)] (pI post) := by
  refine MC.of (lv := [(0, .ref (G.1 + a0))]) (by decide) (Nat.le_of_ble_eq_true rfl) rfl fun p l e R s m args below meth c C hr hnm => ?_
  unfold wp_X12_left at hw
  refine r_aload_n C dX12_left_0 0 rfl ?_
  refine r_iconst (v := 0) C dX12_left_1 (by decide) ?_
  refine r_putI C fp_RX12_1_11 hw.1 rfl dX12_left_2 ?_
  replace hw := hw.2
  refine r_toph fun hv1 ehv1 => ?_
  replace hw := hw hv1 ehv1
  refine r_aload_n C dX12_left_5 0 rfl ?_
  refine r_getI C fl_RX12_102_11 hw.1 (fun _ _ _ => rfl) dX12_left_6 ?_
  replace hw := hw.2
  refine r_if_ge C dX12_left_9 16 (by decide) (fun hc => ?_) (fun hc => ?_)
  · replace hw := hw.1 hc
    refine r_aload_n C dX12_left_16 0 rfl ?_
    refine r_getI C fl_RX12_432_11 hw.1 (fun _ _ _ => rfl) dX12_left_17 ?_
    replace hw := hw.2
    exact r_iret C hr dX12_left_20 hw
  · replace hw := hw.2 hc
    refine r_iconst (v := (-1)) C dX12_left_12 (by decide) ?_
    refine r_goto C dX12_left_13 20 (by decide) ?_
    exact r_iret C hr dX12_left_20 hw
theorem dX12_could_0 : decode cX12_could 0 = .ok (.aload_n 0, 1) := by decide +kernel
theorem dX12_could_1 : decode cX12_could 1 = .ok (.iconst 0, 1) := by decide +kernel
theorem dX12_could_2 : decode cX12_could 2 = .ok (.putfield 1, 3) := by decide +kernel
theorem dX12_could_5 : decode cX12_could 5 = .ok (.aload_n 0, 1) := by decide +kernel
theorem dX12_could_6 : decode cX12_could 6 = .ok (.iload_n 1, 1) := by decide +kernel
theorem dX12_could_7 : decode cX12_could 7 = .ok (.invokevirtual 310, 3) := by decide +kernel
theorem dX12_could_10 : decode cX12_could 10 = .ok (.ifCond .eq 22, 3) := by decide +kernel
theorem dX12_could_13 : decode cX12_could 13 = .ok (.aload_n 0, 1) := by decide +kernel
theorem dX12_could_14 : decode cX12_could 14 = .ok (.iload_n 2, 1) := by decide +kernel
theorem dX12_could_15 : decode cX12_could 15 = .ok (.iload_n 3, 1) := by decide +kernel
theorem dX12_could_16 : decode cX12_could 16 = .ok (.invokevirtual 287, 3) := by decide +kernel
theorem dX12_could_19 : decode cX12_could 19 = .ok (.ifCond .eq 13, 3) := by decide +kernel
theorem dX12_could_22 : decode cX12_could 22 = .ok (.iload 4, 2) := by decide +kernel
theorem dX12_could_24 : decode cX12_could 24 = .ok (.iconst 0, 1) := by decide +kernel
theorem dX12_could_25 : decode cX12_could 25 = .ok (.iconst 1, 1) := by decide +kernel
theorem dX12_could_26 : decode cX12_could 26 = .ok (.invokestatic 196, 3) := by decide +kernel
theorem dX12_could_29 : decode cX12_could 29 = .ok (.ifCond .ne 5, 3) := by decide +kernel
theorem dX12_could_32 : decode cX12_could 32 = .ok (.iconst (-1), 1) := by decide +kernel
theorem dX12_could_33 : decode cX12_could 33 = .ok (.ireturn, 1) := by decide +kernel
theorem dX12_could_34 : decode cX12_could 34 = .ok (.aload_n 0, 1) := by decide +kernel
theorem dX12_could_35 : decode cX12_could 35 = .ok (.invokevirtual 317, 3) := by decide +kernel
theorem dX12_could_38 : decode cX12_could 38 = .ok (.aload_n 0, 1) := by decide +kernel
theorem dX12_could_39 : decode cX12_could 39 = .ok (.iload_n 1, 1) := by decide +kernel
theorem dX12_could_40 : decode cX12_could 40 = .ok (.iload_n 2, 1) := by decide +kernel
theorem dX12_could_41 : decode cX12_could 41 = .ok (.iload_n 3, 1) := by decide +kernel
theorem dX12_could_42 : decode cX12_could 42 = .ok (.iload 4, 2) := by decide +kernel
theorem dX12_could_44 : decode cX12_could 44 = .ok (.invokevirtual 424, 3) := by decide +kernel
theorem dX12_could_47 : decode cX12_could 47 = .ok (.ifCond .ne 5, 3) := by decide +kernel
theorem dX12_could_50 : decode cX12_could 50 = .ok (.iconst (-1), 1) := by decide +kernel
theorem dX12_could_51 : decode cX12_could 51 = .ok (.ireturn, 1) := by decide +kernel
theorem dX12_could_52 : decode cX12_could 52 = .ok (.aload_n 0, 1) := by decide +kernel
theorem dX12_could_53 : decode cX12_could 53 = .ok (.iload_n 1, 1) := by decide +kernel
theorem dX12_could_54 : decode cX12_could 54 = .ok (.invokevirtual 329, 3) := by decide +kernel
theorem dX12_could_57 : decode cX12_could 57 = .ok (.ifCond .ne 11, 3) := by decide +kernel
theorem dX12_could_60 : decode cX12_could 60 = .ok (.aload_n 0, 1) := by decide +kernel
theorem dX12_could_61 : decode cX12_could 61 = .ok (.iload_n 1, 1) := by decide +kernel
theorem dX12_could_62 : decode cX12_could 62 = .ok (.invokevirtual 347, 3) := by decide +kernel
theorem dX12_could_65 : decode cX12_could 65 = .ok (.ifCond .eq 7, 3) := by decide +kernel
theorem dX12_could_68 : decode cX12_could 68 = .ok (.iconst 0, 1) := by decide +kernel
theorem dX12_could_69 : decode cX12_could 69 = .ok (.goto 8, 3) := by decide +kernel
theorem dX12_could_72 : decode cX12_could 72 = .ok (.aload_n 0, 1) := by decide +kernel
theorem dX12_could_73 : decode cX12_could 73 = .ok (.iload_n 1, 1) := by decide +kernel
theorem dX12_could_74 : decode cX12_could 74 = .ok (.invokevirtual 341, 3) := by decide +kernel
theorem dX12_could_77 : decode cX12_could 77 = .ok (.ireturn, 1) := by decide +kernel
def wb_X12_could_68  (h : AH)   (post : AH → Int32 → Prop) : Prop := post h 0
set_option maxRecDepth 100000 in
theorem tb_X12_could_68 {G : GG} {p : Program} {l : Launch} {e : Env} {R : Room} {s : State} {m : MethodId} {args : Array Value} {below : List Frame} {meth : Method} {c : Code} {n0 s0 : Nat} {post : AH → Int32 → Prop} (C : Cx G p R s m args meth c 5 cX12_could RX12 n0 s0 3 71) (hr : meth.sig.returnType = (some .int))   {h : AH}   (hw : wb_X12_could_68  h  post) : AW G p l e R s m args below meth c 5 (QM G (pI post) args s below n0 s0) 68 [] [] h := by
  unfold wb_X12_could_68 at hw
  refine r_iconst (v := 0) C dX12_could_68 (by decide) ?_
  refine r_goto C dX12_could_69 77 (by decide) ?_
  exact r_iret C hr dX12_could_77 hw
def wp_X12_could (h : AH) (a0 : Nat) (x1 : Int32) (x2 : Int32) (x3 : Int32) (x4 : Int32) (post : AH → Int32 → Prop) : Prop := (ob h a0 11) ∧ (∀ hv1 : AH, hv1 = hI h a0 0 0 → ((ob hv1 a0 11) ∧ wp_X12_isRaft hv1 a0 x1 (fun hv2 iv3 => (iv3 = 0 → (post hv2 (-1))) ∧ (¬ iv3 = 0 → ((ob hv2 a0 11) ∧ wp_X12_isCell hv2 a0 x2 x3 (fun hv4 iv5 => (iv5 = 0 → (post hv4 (-1))) ∧ (¬ iv5 = 0 → (wp_X12_isIn hv4 x4 0 1 (fun hv6 iv7 => (¬ iv7 = 0 → ((ob hv6 a0 11) ∧ wp_X12_asItIs hv6 a0  (fun hv8  => (ob hv8 a0 11) ∧ wp_X12_lays hv8 a0 x1 x2 x3 x4 (fun hv9 iv10 => (¬ iv10 = 0 → ((ob hv9 a0 11) ∧ wp_X12_isOnAnother hv9 a0 x1 (fun hv11 iv12 => (¬ iv12 = 0 → (wb_X12_could_68  hv11 post)) ∧ (iv12 = 0 → ((ob hv11 a0 11) ∧ wp_X12_isTooFar hv11 a0 x1 (fun hv13 iv14 => (iv14 = 0 → ((ob hv13 a0 11) ∧ wp_X12_hours hv13 a0 x1 (fun hv15 iv16 => post hv15 iv16))) ∧ (¬ iv14 = 0 → (wb_X12_could_68  hv13 post)))))))) ∧ (iv10 = 0 → (post hv9 (-1))))))) ∧ (iv7 = 0 → (post hv6 (-1))))))))))))
set_option maxRecDepth 100000 in
theorem c_X12_could (G : GG) (h : AH) (a0 : Nat) (x1 : Int32) (x2 : Int32) (x3 : Int32) (x4 : Int32) (post : AH → Int32 → Prop) (hw : wp_X12_could h a0 x1 x2 x3 x4 post) : MC G yX12_could cX12_could 5 (some .int) 3 71 h [.ref (G.1 + a0), .int x1, .int x2, .int x3, .int x4] (pI post) := by
  refine MC.of (lv := [(0, .ref (G.1 + a0)), (1, .int x1), (2, .int x2), (3, .int x3), (4, .int x4)]) (by decide) (Nat.le_of_ble_eq_true rfl) rfl fun p l e R s m args below meth c C hr hnm => ?_
  unfold wp_X12_could at hw
  refine r_aload_n C dX12_could_0 0 rfl ?_
  refine r_iconst (v := 0) C dX12_could_1 (by decide) ?_
  refine r_putI C fp_RX12_1_11 hw.1 rfl dX12_could_2 ?_
  replace hw := hw.2
  refine r_toph fun hv1 ehv1 => ?_
  replace hw := hw hv1 ehv1
  refine r_aload_n C dX12_could_5 0 rfl ?_
  refine r_iload_n C dX12_could_6 1 rfl ?_
  have hob := hw.1
  replace hw := hw.2
  refine r_callV C (As := [.int x1]) (rest := []) (c_X12_isRaft G hv1 a0 x1 _ hw) yl_X12_isRaft (gm8 (List.mem_of_getElem? (i := 49) rfl) rfl) (gm8 (List.mem_of_getElem? (i := 51) rfl) rfl) (ci := 11) rfl (by decide) (gsel (List.mem_of_getElem? (i := 68) rfl)) hob (by decide) rfl (Nat.le_of_ble_eq_true rfl) dX12_could_7 rfl (kI fun hv2 iv3 hw => ?_)
  refine r_if_eq C dX12_could_10 32 (by decide) (fun hc => ?_) (fun hc => ?_)
  · replace hw := hw.1 hc
    refine r_iconst (v := (-1)) C dX12_could_32 (by decide) ?_
    exact r_iret C hr dX12_could_33 hw
  · replace hw := hw.2 hc
    refine r_aload_n C dX12_could_13 0 rfl ?_
    refine r_iload_n C dX12_could_14 2 rfl ?_
    refine r_iload_n C dX12_could_15 3 rfl ?_
    have hob := hw.1
    replace hw := hw.2
    refine r_callV C (As := [.int x2, .int x3]) (rest := []) (c_X12_isCell G hv2 a0 x2 x3 _ hw) yl_X12_isCell (gm8 (List.mem_of_getElem? (i := 34) rfl) rfl) (gm8 (List.mem_of_getElem? (i := 36) rfl) rfl) (ci := 11) rfl (by decide) (gsel (List.mem_of_getElem? (i := 66) rfl)) hob (by decide) rfl (Nat.le_of_ble_eq_true rfl) dX12_could_16 rfl (kI fun hv4 iv5 hw => ?_)
    refine r_if_eq C dX12_could_19 32 (by decide) (fun hc => ?_) (fun hc => ?_)
    · replace hw := hw.1 hc
      refine r_iconst (v := (-1)) C dX12_could_32 (by decide) ?_
      exact r_iret C hr dX12_could_33 hw
    · replace hw := hw.2 hc
      refine r_iload C dX12_could_22 4 rfl ?_
      refine r_iconst (v := 0) C dX12_could_24 (by decide) ?_
      refine r_iconst (v := 1) C dX12_could_25 (by decide) ?_
      refine r_callS C (As := [.int x4, .int 0, .int 1]) (rest := []) (c_X12_isIn G hv4 x4 0 1 _ hw) yl_X12_isIn (gm7 (List.mem_of_getElem? (i := 189) rfl) rfl) (gm7 (List.mem_of_getElem? (i := 190) rfl) rfl) (by decide) rfl (Nat.le_of_ble_eq_true rfl) dX12_could_26 rfl (kI fun hv6 iv7 hw => ?_)
      refine r_if_ne C dX12_could_29 34 (by decide) (fun hc => ?_) (fun hc => ?_)
      · replace hw := hw.1 hc
        refine r_aload_n C dX12_could_34 0 rfl ?_
        have hob := hw.1
        replace hw := hw.2
        refine r_callV C (As := []) (rest := []) (c_X12_asItIs G hv6 a0  _ hw) yl_X12_asItIs (gm8 (List.mem_of_getElem? (i := 57) rfl) rfl) (gm8 (List.mem_of_getElem? (i := 59) rfl) rfl) (ci := 11) rfl (by decide) (gsel (List.mem_of_getElem? (i := 70) rfl)) hob (by decide) rfl (Nat.le_of_ble_eq_true rfl) dX12_could_35 rfl (kV fun hv8  hw => ?_)
        refine r_aload_n C dX12_could_38 0 rfl ?_
        refine r_iload_n C dX12_could_39 1 rfl ?_
        refine r_iload_n C dX12_could_40 2 rfl ?_
        refine r_iload_n C dX12_could_41 3 rfl ?_
        refine r_iload C dX12_could_42 4 rfl ?_
        have hob := hw.1
        replace hw := hw.2
        refine r_callV C (As := [.int x1, .int x2, .int x3, .int x4]) (rest := []) (c_X12_lays G hv8 a0 x1 x2 x3 x4 _ hw) yl_X12_lays (gm9 (List.mem_of_getElem? (i := 9) rfl) rfl) (gm9 (List.mem_of_getElem? (i := 11) rfl) rfl) (ci := 11) rfl (by decide) (gsel (List.mem_of_getElem? (i := 98) rfl)) hob (by decide) rfl (Nat.le_of_ble_eq_true rfl) dX12_could_44 rfl (kI fun hv9 iv10 hw => ?_)
        refine r_if_ne C dX12_could_47 52 (by decide) (fun hc => ?_) (fun hc => ?_)
        · replace hw := hw.1 hc
          refine r_aload_n C dX12_could_52 0 rfl ?_
          refine r_iload_n C dX12_could_53 1 rfl ?_
          have hob := hw.1
          replace hw := hw.2
          refine r_callV C (As := [.int x1]) (rest := []) (c_X12_isOnAnother G hv9 a0 x1 _ hw) yl_X12_isOnAnother (gm8 (List.mem_of_getElem? (i := 85) rfl) rfl) (gm8 (List.mem_of_getElem? (i := 87) rfl) rfl) (ci := 11) rfl (by decide) (gsel (List.mem_of_getElem? (i := 75) rfl)) hob (by decide) rfl (Nat.le_of_ble_eq_true rfl) dX12_could_54 rfl (kI fun hv11 iv12 hw => ?_)
          refine r_if_ne C dX12_could_57 68 (by decide) (fun hc => ?_) (fun hc => ?_)
          · replace hw := hw.1 hc
            refine r_sub [] rfl ?_
            exact tb_X12_could_68 C hr  hw
          · replace hw := hw.2 hc
            refine r_aload_n C dX12_could_60 0 rfl ?_
            refine r_iload_n C dX12_could_61 1 rfl ?_
            have hob := hw.1
            replace hw := hw.2
            refine r_callV C (As := [.int x1]) (rest := []) (c_X12_isTooFar G hv11 a0 x1 _ hw) yl_X12_isTooFar (gm8 (List.mem_of_getElem? (i := 133) rfl) rfl) (gm8 (List.mem_of_getElem? (i := 135) rfl) rfl) (ci := 11) rfl (by decide) (gsel (List.mem_of_getElem? (i := 82) rfl)) hob (by decide) rfl (Nat.le_of_ble_eq_true rfl) dX12_could_62 rfl (kI fun hv13 iv14 hw => ?_)
            refine r_if_eq C dX12_could_65 72 (by decide) (fun hc => ?_) (fun hc => ?_)
            · replace hw := hw.1 hc
              refine r_aload_n C dX12_could_72 0 rfl ?_
              refine r_iload_n C dX12_could_73 1 rfl ?_
              have hob := hw.1
              replace hw := hw.2
              refine r_callV C (As := [.int x1]) (rest := []) (c_X12_hours G hv13 a0 x1 _ hw) yl_X12_hours (gm8 (List.mem_of_getElem? (i := 113) rfl) rfl) (gm8 (List.mem_of_getElem? (i := 115) rfl) rfl) (ci := 11) rfl (by decide) (gsel (List.mem_of_getElem? (i := 79) rfl)) hob (by decide) rfl (Nat.le_of_ble_eq_true rfl) dX12_could_74 rfl (kI fun hv15 iv16 hw => ?_)
              exact r_iret C hr dX12_could_77 hw
            · replace hw := hw.2 hc
              refine r_sub [] rfl ?_
              exact tb_X12_could_68 C hr  hw
        · replace hw := hw.2 hc
          refine r_iconst (v := (-1)) C dX12_could_50 (by decide) ?_
          exact r_iret C hr dX12_could_51 hw
      · replace hw := hw.2 hc
        refine r_iconst (v := (-1)) C dX12_could_32 (by decide) ?_
        exact r_iret C hr dX12_could_33 hw
theorem dX12_together_0 : decode cX12_together 0 = .ok (.iconst 1, 1) := by decide +kernel
theorem dX12_together_1 : decode cX12_together 1 = .ok (.iload_n 1, 1) := by decide +kernel
theorem dX12_together_2 : decode cX12_together 2 = .ok (.ishl, 1) := by decide +kernel
theorem dX12_together_3 : decode cX12_together 3 = .ok (.istore_n 3, 1) := by decide +kernel
theorem dX12_together_4 : decode cX12_together 4 = .ok (.iconst 0, 1) := by decide +kernel
theorem dX12_together_5 : decode cX12_together 5 = .ok (.istore 4, 2) := by decide +kernel
theorem dX12_together_7 : decode cX12_together 7 = .ok (.iload 4, 2) := by decide +kernel
theorem dX12_together_9 : decode cX12_together 9 = .ok (.iload_n 3, 1) := by decide +kernel
theorem dX12_together_10 : decode cX12_together 10 = .ok (.if_icmp .eq 100, 3) := by decide +kernel
theorem dX12_together_13 : decode cX12_together 13 = .ok (.iload_n 3, 1) := by decide +kernel
theorem dX12_together_14 : decode cX12_together 14 = .ok (.istore 4, 2) := by decide +kernel
theorem dX12_together_16 : decode cX12_together 16 = .ok (.iconst 0, 1) := by decide +kernel
theorem dX12_together_17 : decode cX12_together 17 = .ok (.istore 5, 2) := by decide +kernel
theorem dX12_together_19 : decode cX12_together 19 = .ok (.iload 5, 2) := by decide +kernel
theorem dX12_together_21 : decode cX12_together 21 = .ok (.aload_n 0, 1) := by decide +kernel
theorem dX12_together_22 : decode cX12_together 22 = .ok (.getfield 33, 3) := by decide +kernel
theorem dX12_together_25 : decode cX12_together 25 = .ok (.iconst 4, 1) := by decide +kernel
theorem dX12_together_26 : decode cX12_together 26 = .ok (.iaload, 1) := by decide +kernel
theorem dX12_together_27 : decode cX12_together 27 = .ok (.if_icmp .ge 80, 3) := by decide +kernel
theorem dX12_together_30 : decode cX12_together 30 = .ok (.aload_n 0, 1) := by decide +kernel
theorem dX12_together_31 : decode cX12_together 31 = .ok (.getfield 33, 3) := by decide +kernel
theorem dX12_together_34 : decode cX12_together 34 = .ok (.sipush 135, 3) := by decide +kernel
theorem dX12_together_37 : decode cX12_together 37 = .ok (.iconst 4, 1) := by decide +kernel
theorem dX12_together_38 : decode cX12_together 38 = .ok (.iload 5, 2) := by decide +kernel
theorem dX12_together_40 : decode cX12_together 40 = .ok (.imul, 1) := by decide +kernel
theorem dX12_together_41 : decode cX12_together 41 = .ok (.iadd, 1) := by decide +kernel
theorem dX12_together_42 : decode cX12_together 42 = .ok (.iaload, 1) := by decide +kernel
theorem dX12_together_43 : decode cX12_together 43 = .ok (.istore 6, 2) := by decide +kernel
theorem dX12_together_45 : decode cX12_together 45 = .ok (.aload_n 0, 1) := by decide +kernel
theorem dX12_together_46 : decode cX12_together 46 = .ok (.getfield 33, 3) := by decide +kernel
theorem dX12_together_49 : decode cX12_together 49 = .ok (.sipush 135, 3) := by decide +kernel
theorem dX12_together_52 : decode cX12_together 52 = .ok (.iconst 4, 1) := by decide +kernel
theorem dX12_together_53 : decode cX12_together 53 = .ok (.iload 5, 2) := by decide +kernel
theorem dX12_together_55 : decode cX12_together 55 = .ok (.imul, 1) := by decide +kernel
theorem dX12_together_56 : decode cX12_together 56 = .ok (.iadd, 1) := by decide +kernel
theorem dX12_together_57 : decode cX12_together 57 = .ok (.iconst 1, 1) := by decide +kernel
theorem dX12_together_58 : decode cX12_together 58 = .ok (.iadd, 1) := by decide +kernel
theorem dX12_together_59 : decode cX12_together 59 = .ok (.iaload, 1) := by decide +kernel
theorem dX12_together_60 : decode cX12_together 60 = .ok (.istore 7, 2) := by decide +kernel
theorem dX12_together_62 : decode cX12_together 62 = .ok (.iload_n 2, 1) := by decide +kernel
theorem dX12_together_63 : decode cX12_together 63 = .ok (.iload 5, 2) := by decide +kernel
theorem dX12_together_65 : decode cX12_together 65 = .ok (.invokestatic 256, 3) := by decide +kernel
theorem dX12_together_68 : decode cX12_together 68 = .ok (.ifCond .ne 33, 3) := by decide +kernel
theorem dX12_together_71 : decode cX12_together 71 = .ok (.iload_n 3, 1) := by decide +kernel
theorem dX12_together_72 : decode cX12_together 72 = .ok (.iload 6, 2) := by decide +kernel
theorem dX12_together_74 : decode cX12_together 74 = .ok (.invokestatic 256, 3) := by decide +kernel
theorem dX12_together_77 : decode cX12_together 77 = .ok (.ifCond .ne 12, 3) := by decide +kernel
theorem dX12_together_80 : decode cX12_together 80 = .ok (.iload_n 3, 1) := by decide +kernel
theorem dX12_together_81 : decode cX12_together 81 = .ok (.iload 7, 2) := by decide +kernel
theorem dX12_together_83 : decode cX12_together 83 = .ok (.invokestatic 256, 3) := by decide +kernel
theorem dX12_together_86 : decode cX12_together 86 = .ok (.ifCond .eq 15, 3) := by decide +kernel
theorem dX12_together_89 : decode cX12_together 89 = .ok (.iload_n 3, 1) := by decide +kernel
theorem dX12_together_90 : decode cX12_together 90 = .ok (.iconst 1, 1) := by decide +kernel
theorem dX12_together_91 : decode cX12_together 91 = .ok (.iload 6, 2) := by decide +kernel
theorem dX12_together_93 : decode cX12_together 93 = .ok (.ishl, 1) := by decide +kernel
theorem dX12_together_94 : decode cX12_together 94 = .ok (.iconst 1, 1) := by decide +kernel
theorem dX12_together_95 : decode cX12_together 95 = .ok (.iload 7, 2) := by decide +kernel
theorem dX12_together_97 : decode cX12_together 97 = .ok (.ishl, 1) := by decide +kernel
theorem dX12_together_98 : decode cX12_together 98 = .ok (.ior, 1) := by decide +kernel
theorem dX12_together_99 : decode cX12_together 99 = .ok (.ior, 1) := by decide +kernel
theorem dX12_together_100 : decode cX12_together 100 = .ok (.istore_n 3, 1) := by decide +kernel
theorem dX12_together_101 : decode cX12_together 101 = .ok (.iinc 5 1, 3) := by decide +kernel
theorem dX12_together_104 : decode cX12_together 104 = .ok (.goto (-85), 3) := by decide +kernel
theorem dX12_together_107 : decode cX12_together 107 = .ok (.goto (-100), 3) := by decide +kernel
theorem dX12_together_110 : decode cX12_together 110 = .ok (.iload_n 3, 1) := by decide +kernel
theorem dX12_together_111 : decode cX12_together 111 = .ok (.ireturn, 1) := by decide +kernel
def wb_X12_together_101 (K7 : AH → Nat → Int32 → Int32 → Int32 → Prop) (K19 : AH → Nat → Int32 → Int32 → Int32 → Int32 → Prop) (h : AH) (al0 : Nat) (xl2 : Int32) (xl3 : Int32) (xl4 : Int32) (xl5 : Int32)  (post : AH → Int32 → Prop) : Prop := ∀ iv1 : Int32, iv1 = xl5 + 1 → (K19 h al0 xl2 xl3 xl4 iv1)
set_option maxRecDepth 100000 in
theorem tb_X12_together_101 {G : GG} {p : Program} {l : Launch} {e : Env} {R : Room} {s : State} {m : MethodId} {args : Array Value} {below : List Frame} {meth : Method} {c : Code} {n0 s0 : Nat} {post : AH → Int32 → Prop} (C : Cx G p R s m args meth c 8 cX12_together RX12 n0 s0 1 21) (hr : meth.sig.returnType = (some .int)) {K7 : AH → Nat → Int32 → Int32 → Int32 → Prop} {K19 : AH → Nat → Int32 → Int32 → Int32 → Int32 → Prop} (hK7 : ∀ (h : AH) (al0 : Nat) (xl2 : Int32) (xl3 : Int32) (xl4 : Int32), K7 h al0 xl2 xl3 xl4 → AW G p l e R s m args below meth c 8 (QM G (pI post) args s below n0 s0) 7 [(0, .ref (G.1 + al0)), (2, .int xl2), (3, .int xl3), (4, .int xl4)] [] h) (hK19 : ∀ (h : AH) (al0 : Nat) (xl2 : Int32) (xl3 : Int32) (xl4 : Int32) (xl5 : Int32), K19 h al0 xl2 xl3 xl4 xl5 → AW G p l e R s m args below meth c 8 (QM G (pI post) args s below n0 s0) 19 [(0, .ref (G.1 + al0)), (2, .int xl2), (3, .int xl3), (4, .int xl4), (5, .int xl5)] [] h) {h : AH} {al0 : Nat} {xl2 : Int32} {xl3 : Int32} {xl4 : Int32} {xl5 : Int32}  (hw : wb_X12_together_101 K7 K19 h al0 xl2 xl3 xl4 xl5 post) : AW G p l e R s m args below meth c 8 (QM G (pI post) args s below n0 s0) 101 [(0, .ref (G.1 + al0)), (2, .int xl2), (3, .int xl3), (4, .int xl4), (5, .int xl5)] [] h := by
  unfold wb_X12_together_101 at hw
  obtain ⟨iv1, eiv1⟩ : ∃ q : Int32, q = xl5 + 1 := ⟨_, rfl⟩
  replace hw := hw iv1 eiv1
  refine r_iinc C dX12_together_101 4 rfl (by rw [eiv1]; rfl) [(5, .int iv1), (0, .ref (G.1 + al0)), (2, .int xl2), (3, .int xl3), (4, .int xl4)] (by decide) rfl ?_
  refine r_goto C dX12_together_104 19 (by decide) ?_
  refine r_sub [1, 2, 3, 4, 0] rfl ?_
  exact hK19 _ _ _ _ _ _ hw
def wb_X12_together_89 (K7 : AH → Nat → Int32 → Int32 → Int32 → Prop) (K19 : AH → Nat → Int32 → Int32 → Int32 → Int32 → Prop) (h : AH) (al0 : Nat) (xl2 : Int32) (xl3 : Int32) (xl4 : Int32) (xl5 : Int32) (xl6 : Int32) (xl7 : Int32)  (post : AH → Int32 → Prop) : Prop := ∀ iv1 : Int32, iv1 = xl3 ||| (((1 : Int32) <<< (xl6 &&& 31)) ||| ((1 : Int32) <<< (xl7 &&& 31))) → (wb_X12_together_101 K7 K19 h al0 xl2 iv1 xl4 xl5 post)
set_option maxRecDepth 100000 in
theorem tb_X12_together_89 {G : GG} {p : Program} {l : Launch} {e : Env} {R : Room} {s : State} {m : MethodId} {args : Array Value} {below : List Frame} {meth : Method} {c : Code} {n0 s0 : Nat} {post : AH → Int32 → Prop} (C : Cx G p R s m args meth c 8 cX12_together RX12 n0 s0 1 21) (hr : meth.sig.returnType = (some .int)) {K7 : AH → Nat → Int32 → Int32 → Int32 → Prop} {K19 : AH → Nat → Int32 → Int32 → Int32 → Int32 → Prop} (hK7 : ∀ (h : AH) (al0 : Nat) (xl2 : Int32) (xl3 : Int32) (xl4 : Int32), K7 h al0 xl2 xl3 xl4 → AW G p l e R s m args below meth c 8 (QM G (pI post) args s below n0 s0) 7 [(0, .ref (G.1 + al0)), (2, .int xl2), (3, .int xl3), (4, .int xl4)] [] h) (hK19 : ∀ (h : AH) (al0 : Nat) (xl2 : Int32) (xl3 : Int32) (xl4 : Int32) (xl5 : Int32), K19 h al0 xl2 xl3 xl4 xl5 → AW G p l e R s m args below meth c 8 (QM G (pI post) args s below n0 s0) 19 [(0, .ref (G.1 + al0)), (2, .int xl2), (3, .int xl3), (4, .int xl4), (5, .int xl5)] [] h) {h : AH} {al0 : Nat} {xl2 : Int32} {xl3 : Int32} {xl4 : Int32} {xl5 : Int32} {xl6 : Int32} {xl7 : Int32}  (hw : wb_X12_together_89 K7 K19 h al0 xl2 xl3 xl4 xl5 xl6 xl7 post) : AW G p l e R s m args below meth c 8 (QM G (pI post) args s below n0 s0) 89 [(0, .ref (G.1 + al0)), (2, .int xl2), (3, .int xl3), (4, .int xl4), (5, .int xl5), (6, .int xl6), (7, .int xl7)] [] h := by
  unfold wb_X12_together_89 at hw
  refine r_iload_n C dX12_together_89 2 rfl ?_
  refine r_iconst (v := 1) C dX12_together_90 (by decide) ?_
  refine r_iload C dX12_together_91 5 rfl ?_
  refine r_ishl C dX12_together_93 ?_
  refine r_iconst (v := 1) C dX12_together_94 (by decide) ?_
  refine r_iload C dX12_together_95 6 rfl ?_
  refine r_ishl C dX12_together_97 ?_
  refine r_ior C dX12_together_98 ?_
  refine r_ior C dX12_together_99 ?_
  refine r_topi fun iv1 eiv1 => ?_
  replace hw := hw iv1 eiv1
  refine r_istore_n C dX12_together_100 [(3, .int iv1), (0, .ref (G.1 + al0)), (2, .int xl2), (4, .int xl4), (5, .int xl5), (6, .int xl6), (7, .int xl7)] (by decide) rfl ?_
  refine r_sub [1, 2, 0, 3, 4] rfl ?_
  exact tb_X12_together_101 C hr hK7 hK19 hw
def wb_X12_together_19 (K7 : AH → Nat → Int32 → Int32 → Int32 → Prop) (K19 : AH → Nat → Int32 → Int32 → Int32 → Int32 → Prop) (h : AH) (al0 : Nat) (xl2 : Int32) (xl3 : Int32) (xl4 : Int32) (xl5 : Int32)  (post : AH → Int32 → Prop) : Prop := (ob h al0 11) ∧ (∃ rv1, aP h al0 6 = some rv1 ∧ ((ob h rv1 13) ∧ ((vp_in 4 (aL h rv1)) ∧ (((aI h rv1 (4 : Int32).toNatClampNeg) ≤ xl5 → (K7 h al0 xl2 xl3 xl4)) ∧ (¬ (aI h rv1 (4 : Int32).toNatClampNeg) ≤ xl5 → ((ob h al0 11) ∧ (∃ rv2, aP h al0 6 = some rv2 ∧ ((ob h rv2 13) ∧ ((vp_in ((135 : Int32) + ((4 : Int32) * xl5)) (aL h rv2)) ∧ (∀ iv3 : Int32, iv3 = aI h rv2 ((135 : Int32) + ((4 : Int32) * xl5)).toNatClampNeg → ((ob h al0 11) ∧ (∃ rv4, aP h al0 6 = some rv4 ∧ ((ob h rv4 13) ∧ ((vp_in (((135 : Int32) + ((4 : Int32) * xl5)) + (1 : Int32)) (aL h rv4)) ∧ (∀ iv5 : Int32, iv5 = aI h rv4 (((135 : Int32) + ((4 : Int32) * xl5)) + (1 : Int32)).toNatClampNeg → (wp_X12_has h xl2 xl5 (fun hv6 iv7 => (¬ iv7 = 0 → (wb_X12_together_101 K7 K19 hv6 al0 xl2 xl3 xl4 xl5 post)) ∧ (iv7 = 0 → (wp_X12_has hv6 xl3 iv3 (fun hv8 iv9 => (¬ iv9 = 0 → (wb_X12_together_89 K7 K19 hv8 al0 xl2 xl3 xl4 xl5 iv3 iv5 post)) ∧ (iv9 = 0 → (wp_X12_has hv8 xl3 iv5 (fun hv10 iv11 => (iv11 = 0 → (wb_X12_together_101 K7 K19 hv10 al0 xl2 xl3 xl4 xl5 post)) ∧ (¬ iv11 = 0 → (wb_X12_together_89 K7 K19 hv10 al0 xl2 xl3 xl4 xl5 iv3 iv5 post)))))))))))))))))))))))))
set_option maxRecDepth 100000 in
theorem tb_X12_together_19 {G : GG} {p : Program} {l : Launch} {e : Env} {R : Room} {s : State} {m : MethodId} {args : Array Value} {below : List Frame} {meth : Method} {c : Code} {n0 s0 : Nat} {post : AH → Int32 → Prop} (C : Cx G p R s m args meth c 8 cX12_together RX12 n0 s0 1 21) (hr : meth.sig.returnType = (some .int)) {K7 : AH → Nat → Int32 → Int32 → Int32 → Prop} {K19 : AH → Nat → Int32 → Int32 → Int32 → Int32 → Prop} (hK7 : ∀ (h : AH) (al0 : Nat) (xl2 : Int32) (xl3 : Int32) (xl4 : Int32), K7 h al0 xl2 xl3 xl4 → AW G p l e R s m args below meth c 8 (QM G (pI post) args s below n0 s0) 7 [(0, .ref (G.1 + al0)), (2, .int xl2), (3, .int xl3), (4, .int xl4)] [] h) (hK19 : ∀ (h : AH) (al0 : Nat) (xl2 : Int32) (xl3 : Int32) (xl4 : Int32) (xl5 : Int32), K19 h al0 xl2 xl3 xl4 xl5 → AW G p l e R s m args below meth c 8 (QM G (pI post) args s below n0 s0) 19 [(0, .ref (G.1 + al0)), (2, .int xl2), (3, .int xl3), (4, .int xl4), (5, .int xl5)] [] h) {h : AH} {al0 : Nat} {xl2 : Int32} {xl3 : Int32} {xl4 : Int32} {xl5 : Int32}  (hw : wb_X12_together_19 K7 K19 h al0 xl2 xl3 xl4 xl5 post) : AW G p l e R s m args below meth c 8 (QM G (pI post) args s below n0 s0) 19 [(0, .ref (G.1 + al0)), (2, .int xl2), (3, .int xl3), (4, .int xl4), (5, .int xl5)] [] h := by
  unfold wb_X12_together_19 at hw
  refine r_iload C dX12_together_19 4 rfl ?_
  refine r_aload_n C dX12_together_21 0 rfl ?_
  have hob := hw.1
  obtain ⟨rv1, hp, hw⟩ := hw.2
  refine r_getP C fl_RX12_33_11 hob hp (fun _ _ _ => rfl) dX12_together_22 ?_
  refine r_iconst (v := 4) C dX12_together_25 (by decide) ?_
  refine r_iaload C hw.1 hw.2.1 dX12_together_26 ?_
  replace hw := hw.2.2
  refine r_icmp_ge C dX12_together_27 107 (by decide) (fun hc => ?_) (fun hc => ?_)
  · replace hw := hw.1 hc
    refine r_goto C dX12_together_107 7 (by decide) ?_
    refine r_sub [0, 1, 2, 3] rfl ?_
    exact hK7 _ _ _ _ _ hw
  · replace hw := hw.2 hc
    refine r_aload_n C dX12_together_30 0 rfl ?_
    have hob := hw.1
    obtain ⟨rv2, hp, hw⟩ := hw.2
    refine r_getP C fl_RX12_33_11 hob hp (fun _ _ _ => rfl) dX12_together_31 ?_
    refine r_sipush (v := 135) C dX12_together_34 (by decide) ?_
    refine r_iconst (v := 4) C dX12_together_37 (by decide) ?_
    refine r_iload C dX12_together_38 4 rfl ?_
    refine r_imul C dX12_together_40 ?_
    refine r_iadd C dX12_together_41 ?_
    refine r_iaload C hw.1 hw.2.1 dX12_together_42 ?_
    replace hw := hw.2.2
    refine r_topi fun iv3 eiv3 => ?_
    replace hw := hw iv3 eiv3
    refine r_istore C dX12_together_43 [(6, .int iv3), (0, .ref (G.1 + al0)), (2, .int xl2), (3, .int xl3), (4, .int xl4), (5, .int xl5)] (by decide) rfl ?_
    refine r_aload_n C dX12_together_45 1 rfl ?_
    have hob := hw.1
    obtain ⟨rv4, hp, hw⟩ := hw.2
    refine r_getP C fl_RX12_33_11 hob hp (fun _ _ _ => rfl) dX12_together_46 ?_
    refine r_sipush (v := 135) C dX12_together_49 (by decide) ?_
    refine r_iconst (v := 4) C dX12_together_52 (by decide) ?_
    refine r_iload C dX12_together_53 5 rfl ?_
    refine r_imul C dX12_together_55 ?_
    refine r_iadd C dX12_together_56 ?_
    refine r_iconst (v := 1) C dX12_together_57 (by decide) ?_
    refine r_iadd C dX12_together_58 ?_
    refine r_iaload C hw.1 hw.2.1 dX12_together_59 ?_
    replace hw := hw.2.2
    refine r_topi fun iv5 eiv5 => ?_
    replace hw := hw iv5 eiv5
    refine r_istore C dX12_together_60 [(7, .int iv5), (6, .int iv3), (0, .ref (G.1 + al0)), (2, .int xl2), (3, .int xl3), (4, .int xl4), (5, .int xl5)] (by decide) rfl ?_
    refine r_iload_n C dX12_together_62 3 rfl ?_
    refine r_iload C dX12_together_63 6 rfl ?_
    refine r_callS C (As := [.int xl2, .int xl5]) (rest := []) (c_X12_has G h xl2 xl5 _ hw) yl_X12_has (gm7 (List.mem_of_getElem? (i := 192) rfl) rfl) (gm7 (List.mem_of_getElem? (i := 193) rfl) rfl) (by decide) rfl (Nat.le_of_ble_eq_true rfl) dX12_together_65 rfl (kI fun hv6 iv7 hw => ?_)
    refine r_if_ne C dX12_together_68 101 (by decide) (fun hc => ?_) (fun hc => ?_)
    · replace hw := hw.1 hc
      refine r_sub [2, 3, 4, 5, 6] rfl ?_
      exact tb_X12_together_101 C hr hK7 hK19 hw
    · replace hw := hw.2 hc
      refine r_iload_n C dX12_together_71 4 rfl ?_
      refine r_iload C dX12_together_72 1 rfl ?_
      refine r_callS C (As := [.int xl3, .int iv3]) (rest := []) (c_X12_has G hv6 xl3 iv3 _ hw) yl_X12_has (gm7 (List.mem_of_getElem? (i := 192) rfl) rfl) (gm7 (List.mem_of_getElem? (i := 193) rfl) rfl) (by decide) rfl (Nat.le_of_ble_eq_true rfl) dX12_together_74 rfl (kI fun hv8 iv9 hw => ?_)
      refine r_if_ne C dX12_together_77 89 (by decide) (fun hc => ?_) (fun hc => ?_)
      · replace hw := hw.1 hc
        refine r_sub [2, 3, 4, 5, 6, 1, 0] rfl ?_
        exact tb_X12_together_89 C hr hK7 hK19 hw
      · replace hw := hw.2 hc
        refine r_iload_n C dX12_together_80 4 rfl ?_
        refine r_iload C dX12_together_81 0 rfl ?_
        refine r_callS C (As := [.int xl3, .int iv5]) (rest := []) (c_X12_has G hv8 xl3 iv5 _ hw) yl_X12_has (gm7 (List.mem_of_getElem? (i := 192) rfl) rfl) (gm7 (List.mem_of_getElem? (i := 193) rfl) rfl) (by decide) rfl (Nat.le_of_ble_eq_true rfl) dX12_together_83 rfl (kI fun hv10 iv11 hw => ?_)
        refine r_if_eq C dX12_together_86 101 (by decide) (fun hc => ?_) (fun hc => ?_)
        · replace hw := hw.1 hc
          refine r_sub [2, 3, 4, 5, 6] rfl ?_
          exact tb_X12_together_101 C hr hK7 hK19 hw
        · replace hw := hw.2 hc
          refine r_sub [2, 3, 4, 5, 6, 1, 0] rfl ?_
          exact tb_X12_together_89 C hr hK7 hK19 hw
def wl_X12_together_19 (K7 : AH → Nat → Int32 → Int32 → Int32 → Prop) (post : AH → Int32 → Prop) : Nat → AH → Nat → Int32 → Int32 → Int32 → Int32 → Prop
  | 0 => fun _ _ _ _ _ _ => False
  | n + 1 => fun h al0 xl2 xl3 xl4 xl5 => wb_X12_together_19 K7 (wl_X12_together_19 K7 post n) h al0 xl2 xl3 xl4 xl5 post
theorem tl_X12_together_19 {G : GG} {p : Program} {l : Launch} {e : Env} {R : Room} {s : State} {m : MethodId} {args : Array Value} {below : List Frame} {meth : Method} {c : Code} {n0 s0 : Nat} {post : AH → Int32 → Prop} (C : Cx G p R s m args meth c 8 cX12_together RX12 n0 s0 1 21) (hr : meth.sig.returnType = (some .int)) {K7 : AH → Nat → Int32 → Int32 → Int32 → Prop} (hK7 : ∀ (h : AH) (al0 : Nat) (xl2 : Int32) (xl3 : Int32) (xl4 : Int32), K7 h al0 xl2 xl3 xl4 → AW G p l e R s m args below meth c 8 (QM G (pI post) args s below n0 s0) 7 [(0, .ref (G.1 + al0)), (2, .int xl2), (3, .int xl3), (4, .int xl4)] [] h) : ∀ (n : Nat) (h : AH) (al0 : Nat) (xl2 : Int32) (xl3 : Int32) (xl4 : Int32) (xl5 : Int32), wl_X12_together_19 K7 post n h al0 xl2 xl3 xl4 xl5 → AW G p l e R s m args below meth c 8 (QM G (pI post) args s below n0 s0) 19 [(0, .ref (G.1 + al0)), (2, .int xl2), (3, .int xl3), (4, .int xl4), (5, .int xl5)] [] h := by
  intro n
  induction n with
  | zero => intro h al0 xl2 xl3 xl4 xl5 hw; exact hw.elim
  | succ n ih => intro h al0 xl2 xl3 xl4 xl5 hw; exact tb_X12_together_19 C hr hK7 ih hw
def wb_X12_together_7 (K7 : AH → Nat → Int32 → Int32 → Int32 → Prop) (h : AH) (al0 : Nat) (xl2 : Int32) (xl3 : Int32) (xl4 : Int32)  (post : AH → Int32 → Prop) : Prop := (xl4 = xl3 → (post h xl3)) ∧ (¬ xl4 = xl3 → (∃ n, wl_X12_together_19 K7 post n h al0 xl2 xl3 xl3 0))
set_option maxRecDepth 100000 in
theorem tb_X12_together_7 {G : GG} {p : Program} {l : Launch} {e : Env} {R : Room} {s : State} {m : MethodId} {args : Array Value} {below : List Frame} {meth : Method} {c : Code} {n0 s0 : Nat} {post : AH → Int32 → Prop} (C : Cx G p R s m args meth c 8 cX12_together RX12 n0 s0 1 21) (hr : meth.sig.returnType = (some .int)) {K7 : AH → Nat → Int32 → Int32 → Int32 → Prop} (hK7 : ∀ (h : AH) (al0 : Nat) (xl2 : Int32) (xl3 : Int32) (xl4 : Int32), K7 h al0 xl2 xl3 xl4 → AW G p l e R s m args below meth c 8 (QM G (pI post) args s below n0 s0) 7 [(0, .ref (G.1 + al0)), (2, .int xl2), (3, .int xl3), (4, .int xl4)] [] h) {h : AH} {al0 : Nat} {xl2 : Int32} {xl3 : Int32} {xl4 : Int32}  (hw : wb_X12_together_7 K7 h al0 xl2 xl3 xl4 post) : AW G p l e R s m args below meth c 8 (QM G (pI post) args s below n0 s0) 7 [(0, .ref (G.1 + al0)), (2, .int xl2), (3, .int xl3), (4, .int xl4)] [] h := by
  unfold wb_X12_together_7 at hw
  refine r_iload C dX12_together_7 3 rfl ?_
  refine r_iload_n C dX12_together_9 2 rfl ?_
  refine r_icmp_eq C dX12_together_10 110 (by decide) (fun hc => ?_) (fun hc => ?_)
  · replace hw := hw.1 hc
    refine r_iload_n C dX12_together_110 2 rfl ?_
    exact r_iret C hr dX12_together_111 hw
  · replace hw := hw.2 hc
    refine r_iload_n C dX12_together_13 2 rfl ?_
    refine r_istore C dX12_together_14 [(4, .int xl3), (0, .ref (G.1 + al0)), (2, .int xl2), (3, .int xl3)] (by decide) rfl ?_
    refine r_iconst (v := 0) C dX12_together_16 (by decide) ?_
    refine r_istore C dX12_together_17 [(5, .int 0), (4, .int xl3), (0, .ref (G.1 + al0)), (2, .int xl2), (3, .int xl3)] (by decide) rfl ?_
    refine r_sub [2, 3, 4, 1, 0] rfl ?_
    obtain ⟨n, hw⟩ := hw
    exact tl_X12_together_19 C hr hK7 n _ _ _ _ _ _ hw
def wl_X12_together_7  (post : AH → Int32 → Prop) : Nat → AH → Nat → Int32 → Int32 → Int32 → Prop
  | 0 => fun _ _ _ _ _ => False
  | n + 1 => fun h al0 xl2 xl3 xl4 => wb_X12_together_7  (wl_X12_together_7  post n) h al0 xl2 xl3 xl4 post
theorem tl_X12_together_7 {G : GG} {p : Program} {l : Launch} {e : Env} {R : Room} {s : State} {m : MethodId} {args : Array Value} {below : List Frame} {meth : Method} {c : Code} {n0 s0 : Nat} {post : AH → Int32 → Prop} (C : Cx G p R s m args meth c 8 cX12_together RX12 n0 s0 1 21) (hr : meth.sig.returnType = (some .int))   : ∀ (n : Nat) (h : AH) (al0 : Nat) (xl2 : Int32) (xl3 : Int32) (xl4 : Int32), wl_X12_together_7  post n h al0 xl2 xl3 xl4 → AW G p l e R s m args below meth c 8 (QM G (pI post) args s below n0 s0) 7 [(0, .ref (G.1 + al0)), (2, .int xl2), (3, .int xl3), (4, .int xl4)] [] h := by
  intro n
  induction n with
  | zero => intro h al0 xl2 xl3 xl4 hw; exact hw.elim
  | succ n ih => intro h al0 xl2 xl3 xl4 hw; exact tb_X12_together_7 C hr  ih hw
def wp_X12_together (h : AH) (a0 : Nat) (x1 : Int32) (x2 : Int32) (post : AH → Int32 → Prop) : Prop := ∀ iv1 : Int32, iv1 = (1 : Int32) <<< (x1 &&& 31) → (∃ n, wl_X12_together_7  post n h a0 x2 iv1 0)
set_option maxRecDepth 100000 in
theorem c_X12_together (G : GG) (h : AH) (a0 : Nat) (x1 : Int32) (x2 : Int32) (post : AH → Int32 → Prop) (hw : wp_X12_together h a0 x1 x2 post) : MC G yX12_together cX12_together 8 (some .int) 1 21 h [.ref (G.1 + a0), .int x1, .int x2] (pI post) := by
  refine MC.of (lv := [(0, .ref (G.1 + a0)), (1, .int x1), (2, .int x2)]) (by decide) (Nat.le_of_ble_eq_true rfl) rfl fun p l e R s m args below meth c C hr hnm => ?_
  unfold wp_X12_together at hw
  refine r_iconst (v := 1) C dX12_together_0 (by decide) ?_
  refine r_iload_n C dX12_together_1 1 rfl ?_
  refine r_ishl C dX12_together_2 ?_
  refine r_topi fun iv1 eiv1 => ?_
  replace hw := hw iv1 eiv1
  refine r_istore_n C dX12_together_3 [(3, .int iv1), (0, .ref (G.1 + a0)), (1, .int x1), (2, .int x2)] (by decide) rfl ?_
  refine r_iconst (v := 0) C dX12_together_4 (by decide) ?_
  refine r_istore C dX12_together_5 [(4, .int 0), (3, .int iv1), (0, .ref (G.1 + a0)), (1, .int x1), (2, .int x2)] (by decide) rfl ?_
  refine r_sub [2, 4, 1, 0] rfl ?_
  obtain ⟨n, hw⟩ := hw
  exact tl_X12_together_7 C hr  n _ _ _ _ _ hw
theorem dX12_isDriven_0 : decode cX12_isDriven 0 = .ok (.aload_n 0, 1) := by decide +kernel
theorem dX12_isDriven_1 : decode cX12_isDriven 1 = .ok (.iload_n 1, 1) := by decide +kernel
theorem dX12_isDriven_2 : decode cX12_isDriven 2 = .ok (.iload_n 3, 1) := by decide +kernel
theorem dX12_isDriven_3 : decode cX12_isDriven 3 = .ok (.invokevirtual 438, 3) := by decide +kernel
theorem dX12_isDriven_6 : decode cX12_isDriven 6 = .ok (.istore 4, 2) := by decide +kernel
theorem dX12_isDriven_8 : decode cX12_isDriven 8 = .ok (.iconst 0, 1) := by decide +kernel
theorem dX12_isDriven_9 : decode cX12_isDriven 9 = .ok (.istore 5, 2) := by decide +kernel
theorem dX12_isDriven_11 : decode cX12_isDriven 11 = .ok (.iconst 0, 1) := by decide +kernel
theorem dX12_isDriven_12 : decode cX12_isDriven 12 = .ok (.istore 6, 2) := by decide +kernel
theorem dX12_isDriven_14 : decode cX12_isDriven 14 = .ok (.iconst 0, 1) := by decide +kernel
theorem dX12_isDriven_15 : decode cX12_isDriven 15 = .ok (.istore 7, 2) := by decide +kernel
theorem dX12_isDriven_17 : decode cX12_isDriven 17 = .ok (.iload 7, 2) := by decide +kernel
theorem dX12_isDriven_19 : decode cX12_isDriven 19 = .ok (.aload_n 0, 1) := by decide +kernel
theorem dX12_isDriven_20 : decode cX12_isDriven 20 = .ok (.getfield 33, 3) := by decide +kernel
theorem dX12_isDriven_23 : decode cX12_isDriven 23 = .ok (.iconst 2, 1) := by decide +kernel
theorem dX12_isDriven_24 : decode cX12_isDriven 24 = .ok (.iaload, 1) := by decide +kernel
theorem dX12_isDriven_25 : decode cX12_isDriven 25 = .ok (.if_icmp .ge 70, 3) := by decide +kernel
theorem dX12_isDriven_28 : decode cX12_isDriven 28 = .ok (.iload 4, 2) := by decide +kernel
theorem dX12_isDriven_30 : decode cX12_isDriven 30 = .ok (.iload 7, 2) := by decide +kernel
theorem dX12_isDriven_32 : decode cX12_isDriven 32 = .ok (.invokestatic 256, 3) := by decide +kernel
theorem dX12_isDriven_35 : decode cX12_isDriven 35 = .ok (.ifCond .ne 6, 3) := by decide +kernel
theorem dX12_isDriven_38 : decode cX12_isDriven 38 = .ok (.goto 51, 3) := by decide +kernel
theorem dX12_isDriven_41 : decode cX12_isDriven 41 = .ok (.iload 5, 2) := by decide +kernel
theorem dX12_isDriven_43 : decode cX12_isDriven 43 = .ok (.aload_n 0, 1) := by decide +kernel
theorem dX12_isDriven_44 : decode cX12_isDriven 44 = .ok (.getfield 33, 3) := by decide +kernel
theorem dX12_isDriven_47 : decode cX12_isDriven 47 = .ok (.bipush 99, 2) := by decide +kernel
theorem dX12_isDriven_49 : decode cX12_isDriven 49 = .ok (.iconst 3, 1) := by decide +kernel
theorem dX12_isDriven_50 : decode cX12_isDriven 50 = .ok (.iload 7, 2) := by decide +kernel
theorem dX12_isDriven_52 : decode cX12_isDriven 52 = .ok (.imul, 1) := by decide +kernel
theorem dX12_isDriven_53 : decode cX12_isDriven 53 = .ok (.iadd, 1) := by decide +kernel
theorem dX12_isDriven_54 : decode cX12_isDriven 54 = .ok (.iaload, 1) := by decide +kernel
theorem dX12_isDriven_55 : decode cX12_isDriven 55 = .ok (.aload_n 0, 1) := by decide +kernel
theorem dX12_isDriven_56 : decode cX12_isDriven 56 = .ok (.getfield 33, 3) := by decide +kernel
theorem dX12_isDriven_59 : decode cX12_isDriven 59 = .ok (.bipush 99, 2) := by decide +kernel
theorem dX12_isDriven_61 : decode cX12_isDriven 61 = .ok (.iconst 3, 1) := by decide +kernel
theorem dX12_isDriven_62 : decode cX12_isDriven 62 = .ok (.iload 7, 2) := by decide +kernel
theorem dX12_isDriven_64 : decode cX12_isDriven 64 = .ok (.imul, 1) := by decide +kernel
theorem dX12_isDriven_65 : decode cX12_isDriven 65 = .ok (.iadd, 1) := by decide +kernel
theorem dX12_isDriven_66 : decode cX12_isDriven 66 = .ok (.iconst 1, 1) := by decide +kernel
theorem dX12_isDriven_67 : decode cX12_isDriven 67 = .ok (.iadd, 1) := by decide +kernel
theorem dX12_isDriven_68 : decode cX12_isDriven 68 = .ok (.iaload, 1) := by decide +kernel
theorem dX12_isDriven_69 : decode cX12_isDriven 69 = .ok (.imul, 1) := by decide +kernel
theorem dX12_isDriven_70 : decode cX12_isDriven 70 = .ok (.iadd, 1) := by decide +kernel
theorem dX12_isDriven_71 : decode cX12_isDriven 71 = .ok (.istore 5, 2) := by decide +kernel
theorem dX12_isDriven_73 : decode cX12_isDriven 73 = .ok (.iload 6, 2) := by decide +kernel
theorem dX12_isDriven_75 : decode cX12_isDriven 75 = .ok (.aload_n 0, 1) := by decide +kernel
theorem dX12_isDriven_76 : decode cX12_isDriven 76 = .ok (.getfield 33, 3) := by decide +kernel
theorem dX12_isDriven_79 : decode cX12_isDriven 79 = .ok (.sipush 167, 3) := by decide +kernel
theorem dX12_isDriven_82 : decode cX12_isDriven 82 = .ok (.iload 7, 2) := by decide +kernel
theorem dX12_isDriven_84 : decode cX12_isDriven 84 = .ok (.iadd, 1) := by decide +kernel
theorem dX12_isDriven_85 : decode cX12_isDriven 85 = .ok (.iaload, 1) := by decide +kernel
theorem dX12_isDriven_86 : decode cX12_isDriven 86 = .ok (.iadd, 1) := by decide +kernel
theorem dX12_isDriven_87 : decode cX12_isDriven 87 = .ok (.istore 6, 2) := by decide +kernel
theorem dX12_isDriven_89 : decode cX12_isDriven 89 = .ok (.iinc 7 1, 3) := by decide +kernel
theorem dX12_isDriven_92 : decode cX12_isDriven 92 = .ok (.goto (-75), 3) := by decide +kernel
theorem dX12_isDriven_95 : decode cX12_isDriven 95 = .ok (.iload_n 2, 1) := by decide +kernel
theorem dX12_isDriven_96 : decode cX12_isDriven 96 = .ok (.iload 5, 2) := by decide +kernel
theorem dX12_isDriven_98 : decode cX12_isDriven 98 = .ok (.imul, 1) := by decide +kernel
theorem dX12_isDriven_99 : decode cX12_isDriven 99 = .ok (.iload 6, 2) := by decide +kernel
theorem dX12_isDriven_101 : decode cX12_isDriven 101 = .ok (.if_icmp .le 7, 3) := by decide +kernel
theorem dX12_isDriven_104 : decode cX12_isDriven 104 = .ok (.iconst 1, 1) := by decide +kernel
theorem dX12_isDriven_105 : decode cX12_isDriven 105 = .ok (.goto 4, 3) := by decide +kernel
theorem dX12_isDriven_108 : decode cX12_isDriven 108 = .ok (.iconst 0, 1) := by decide +kernel
theorem dX12_isDriven_109 : decode cX12_isDriven 109 = .ok (.ireturn, 1) := by decide +kernel
def wb_X12_isDriven_89 (K17 : AH → Nat → Int32 → Int32 → Int32 → Int32 → Int32 → Prop) (h : AH) (al0 : Nat) (xl2 : Int32) (xl4 : Int32) (xl5 : Int32) (xl6 : Int32) (xl7 : Int32)  (post : AH → Int32 → Prop) : Prop := ∀ iv1 : Int32, iv1 = xl7 + 1 → (K17 h al0 xl2 xl4 xl5 xl6 iv1)
set_option maxRecDepth 100000 in
theorem tb_X12_isDriven_89 {G : GG} {p : Program} {l : Launch} {e : Env} {R : Room} {s : State} {m : MethodId} {args : Array Value} {below : List Frame} {meth : Method} {c : Code} {n0 s0 : Nat} {post : AH → Int32 → Prop} (C : Cx G p R s m args meth c 8 cX12_isDriven RX12 n0 s0 2 48) (hr : meth.sig.returnType = (some .boolean)) {K17 : AH → Nat → Int32 → Int32 → Int32 → Int32 → Int32 → Prop} (hK17 : ∀ (h : AH) (al0 : Nat) (xl2 : Int32) (xl4 : Int32) (xl5 : Int32) (xl6 : Int32) (xl7 : Int32), K17 h al0 xl2 xl4 xl5 xl6 xl7 → AW G p l e R s m args below meth c 8 (QM G (pI post) args s below n0 s0) 17 [(0, .ref (G.1 + al0)), (2, .int xl2), (4, .int xl4), (5, .int xl5), (6, .int xl6), (7, .int xl7)] [] h) {h : AH} {al0 : Nat} {xl2 : Int32} {xl4 : Int32} {xl5 : Int32} {xl6 : Int32} {xl7 : Int32}  (hw : wb_X12_isDriven_89 K17 h al0 xl2 xl4 xl5 xl6 xl7 post) : AW G p l e R s m args below meth c 8 (QM G (pI post) args s below n0 s0) 89 [(0, .ref (G.1 + al0)), (2, .int xl2), (4, .int xl4), (5, .int xl5), (6, .int xl6), (7, .int xl7)] [] h := by
  unfold wb_X12_isDriven_89 at hw
  obtain ⟨iv1, eiv1⟩ : ∃ q : Int32, q = xl7 + 1 := ⟨_, rfl⟩
  replace hw := hw iv1 eiv1
  refine r_iinc C dX12_isDriven_89 5 rfl (by rw [eiv1]; rfl) [(7, .int iv1), (0, .ref (G.1 + al0)), (2, .int xl2), (4, .int xl4), (5, .int xl5), (6, .int xl6)] (by decide) rfl ?_
  refine r_goto C dX12_isDriven_92 17 (by decide) ?_
  refine r_sub [1, 2, 3, 4, 5, 0] rfl ?_
  exact hK17 _ _ _ _ _ _ _ hw
def wb_X12_isDriven_17 (K17 : AH → Nat → Int32 → Int32 → Int32 → Int32 → Int32 → Prop) (h : AH) (al0 : Nat) (xl2 : Int32) (xl4 : Int32) (xl5 : Int32) (xl6 : Int32) (xl7 : Int32)  (post : AH → Int32 → Prop) : Prop := (ob h al0 11) ∧ (∃ rv1, aP h al0 6 = some rv1 ∧ ((ob h rv1 13) ∧ ((vp_in 2 (aL h rv1)) ∧ (((aI h rv1 (2 : Int32).toNatClampNeg) ≤ xl7 → (((xl2 * xl5) ≤ xl6 → (((0 : Int32) = 0 ∨ (0 : Int32) = 1) ∧ post h 0)) ∧ (¬ (xl2 * xl5) ≤ xl6 → (((1 : Int32) = 0 ∨ (1 : Int32) = 1) ∧ post h 1)))) ∧ (¬ (aI h rv1 (2 : Int32).toNatClampNeg) ≤ xl7 → (wp_X12_has h xl4 xl7 (fun hv2 iv3 => (¬ iv3 = 0 → ((ob hv2 al0 11) ∧ (∃ rv4, aP hv2 al0 6 = some rv4 ∧ ((ob hv2 rv4 13) ∧ ((vp_in ((99 : Int32) + ((3 : Int32) * xl7)) (aL hv2 rv4)) ∧ ((ob hv2 al0 11) ∧ (∃ rv5, aP hv2 al0 6 = some rv5 ∧ ((ob hv2 rv5 13) ∧ ((vp_in (((99 : Int32) + ((3 : Int32) * xl7)) + (1 : Int32)) (aL hv2 rv5)) ∧ (∀ iv6 : Int32, iv6 = xl5 + ((aI hv2 rv4 ((99 : Int32) + ((3 : Int32) * xl7)).toNatClampNeg) * (aI hv2 rv5 (((99 : Int32) + ((3 : Int32) * xl7)) + (1 : Int32)).toNatClampNeg)) → ((ob hv2 al0 11) ∧ (∃ rv7, aP hv2 al0 6 = some rv7 ∧ ((ob hv2 rv7 13) ∧ ((vp_in ((167 : Int32) + xl7) (aL hv2 rv7)) ∧ (∀ iv8 : Int32, iv8 = xl6 + (aI hv2 rv7 ((167 : Int32) + xl7).toNatClampNeg) → (wb_X12_isDriven_89 K17 hv2 al0 xl2 xl4 iv6 iv8 xl7 post)))))))))))))))) ∧ (iv3 = 0 → (wb_X12_isDriven_89 K17 hv2 al0 xl2 xl4 xl5 xl6 xl7 post)))))))))
set_option maxRecDepth 100000 in
theorem tb_X12_isDriven_17 {G : GG} {p : Program} {l : Launch} {e : Env} {R : Room} {s : State} {m : MethodId} {args : Array Value} {below : List Frame} {meth : Method} {c : Code} {n0 s0 : Nat} {post : AH → Int32 → Prop} (C : Cx G p R s m args meth c 8 cX12_isDriven RX12 n0 s0 2 48) (hr : meth.sig.returnType = (some .boolean)) {K17 : AH → Nat → Int32 → Int32 → Int32 → Int32 → Int32 → Prop} (hK17 : ∀ (h : AH) (al0 : Nat) (xl2 : Int32) (xl4 : Int32) (xl5 : Int32) (xl6 : Int32) (xl7 : Int32), K17 h al0 xl2 xl4 xl5 xl6 xl7 → AW G p l e R s m args below meth c 8 (QM G (pI post) args s below n0 s0) 17 [(0, .ref (G.1 + al0)), (2, .int xl2), (4, .int xl4), (5, .int xl5), (6, .int xl6), (7, .int xl7)] [] h) {h : AH} {al0 : Nat} {xl2 : Int32} {xl4 : Int32} {xl5 : Int32} {xl6 : Int32} {xl7 : Int32}  (hw : wb_X12_isDriven_17 K17 h al0 xl2 xl4 xl5 xl6 xl7 post) : AW G p l e R s m args below meth c 8 (QM G (pI post) args s below n0 s0) 17 [(0, .ref (G.1 + al0)), (2, .int xl2), (4, .int xl4), (5, .int xl5), (6, .int xl6), (7, .int xl7)] [] h := by
  unfold wb_X12_isDriven_17 at hw
  refine r_iload C dX12_isDriven_17 5 rfl ?_
  refine r_aload_n C dX12_isDriven_19 0 rfl ?_
  have hob := hw.1
  obtain ⟨rv1, hp, hw⟩ := hw.2
  refine r_getP C fl_RX12_33_11 hob hp (fun _ _ _ => rfl) dX12_isDriven_20 ?_
  refine r_iconst (v := 2) C dX12_isDriven_23 (by decide) ?_
  refine r_iaload C hw.1 hw.2.1 dX12_isDriven_24 ?_
  replace hw := hw.2.2
  refine r_icmp_ge C dX12_isDriven_25 95 (by decide) (fun hc => ?_) (fun hc => ?_)
  · replace hw := hw.1 hc
    refine r_iload_n C dX12_isDriven_95 1 rfl ?_
    refine r_iload C dX12_isDriven_96 3 rfl ?_
    refine r_imul C dX12_isDriven_98 ?_
    refine r_iload C dX12_isDriven_99 4 rfl ?_
    refine r_icmp_le C dX12_isDriven_101 108 (by decide) (fun hc => ?_) (fun hc => ?_)
    · replace hw := hw.1 hc
      refine r_iconst (v := 0) C dX12_isDriven_108 (by decide) ?_
      exact r_zret C hr dX12_isDriven_109 hw.1 hw.2
    · replace hw := hw.2 hc
      refine r_iconst (v := 1) C dX12_isDriven_104 (by decide) ?_
      refine r_goto C dX12_isDriven_105 109 (by decide) ?_
      exact r_zret C hr dX12_isDriven_109 hw.1 hw.2
  · replace hw := hw.2 hc
    refine r_iload C dX12_isDriven_28 2 rfl ?_
    refine r_iload C dX12_isDriven_30 5 rfl ?_
    refine r_callS C (As := [.int xl4, .int xl7]) (rest := []) (c_X12_has G h xl4 xl7 _ hw) yl_X12_has (gm7 (List.mem_of_getElem? (i := 192) rfl) rfl) (gm7 (List.mem_of_getElem? (i := 193) rfl) rfl) (by decide) rfl (Nat.le_of_ble_eq_true rfl) dX12_isDriven_32 rfl (kI fun hv2 iv3 hw => ?_)
    refine r_if_ne C dX12_isDriven_35 41 (by decide) (fun hc => ?_) (fun hc => ?_)
    · replace hw := hw.1 hc
      refine r_iload C dX12_isDriven_41 3 rfl ?_
      refine r_aload_n C dX12_isDriven_43 0 rfl ?_
      have hob := hw.1
      obtain ⟨rv4, hp, hw⟩ := hw.2
      refine r_getP C fl_RX12_33_11 hob hp (fun _ _ _ => rfl) dX12_isDriven_44 ?_
      refine r_bipush (v := 99) C dX12_isDriven_47 (by decide) ?_
      refine r_iconst (v := 3) C dX12_isDriven_49 (by decide) ?_
      refine r_iload C dX12_isDriven_50 5 rfl ?_
      refine r_imul C dX12_isDriven_52 ?_
      refine r_iadd C dX12_isDriven_53 ?_
      refine r_iaload C hw.1 hw.2.1 dX12_isDriven_54 ?_
      replace hw := hw.2.2
      refine r_aload_n C dX12_isDriven_55 0 rfl ?_
      have hob := hw.1
      obtain ⟨rv5, hp, hw⟩ := hw.2
      refine r_getP C fl_RX12_33_11 hob hp (fun _ _ _ => rfl) dX12_isDriven_56 ?_
      refine r_bipush (v := 99) C dX12_isDriven_59 (by decide) ?_
      refine r_iconst (v := 3) C dX12_isDriven_61 (by decide) ?_
      refine r_iload C dX12_isDriven_62 5 rfl ?_
      refine r_imul C dX12_isDriven_64 ?_
      refine r_iadd C dX12_isDriven_65 ?_
      refine r_iconst (v := 1) C dX12_isDriven_66 (by decide) ?_
      refine r_iadd C dX12_isDriven_67 ?_
      refine r_iaload C hw.1 hw.2.1 dX12_isDriven_68 ?_
      replace hw := hw.2.2
      refine r_imul C dX12_isDriven_69 ?_
      refine r_iadd C dX12_isDriven_70 ?_
      refine r_topi fun iv6 eiv6 => ?_
      replace hw := hw iv6 eiv6
      refine r_istore C dX12_isDriven_71 [(5, .int iv6), (0, .ref (G.1 + al0)), (2, .int xl2), (4, .int xl4), (6, .int xl6), (7, .int xl7)] (by decide) rfl ?_
      refine r_iload C dX12_isDriven_73 4 rfl ?_
      refine r_aload_n C dX12_isDriven_75 1 rfl ?_
      have hob := hw.1
      obtain ⟨rv7, hp, hw⟩ := hw.2
      refine r_getP C fl_RX12_33_11 hob hp (fun _ _ _ => rfl) dX12_isDriven_76 ?_
      refine r_sipush (v := 167) C dX12_isDriven_79 (by decide) ?_
      refine r_iload C dX12_isDriven_82 5 rfl ?_
      refine r_iadd C dX12_isDriven_84 ?_
      refine r_iaload C hw.1 hw.2.1 dX12_isDriven_85 ?_
      replace hw := hw.2.2
      refine r_iadd C dX12_isDriven_86 ?_
      refine r_topi fun iv8 eiv8 => ?_
      replace hw := hw iv8 eiv8
      refine r_istore C dX12_isDriven_87 [(6, .int iv8), (5, .int iv6), (0, .ref (G.1 + al0)), (2, .int xl2), (4, .int xl4), (7, .int xl7)] (by decide) rfl ?_
      refine r_sub [2, 3, 4, 1, 0, 5] rfl ?_
      exact tb_X12_isDriven_89 C hr hK17 hw
    · replace hw := hw.2 hc
      refine r_goto C dX12_isDriven_38 89 (by decide) ?_
      refine r_sub [0, 1, 2, 3, 4, 5] rfl ?_
      exact tb_X12_isDriven_89 C hr hK17 hw
def wl_X12_isDriven_17  (post : AH → Int32 → Prop) : Nat → AH → Nat → Int32 → Int32 → Int32 → Int32 → Int32 → Prop
  | 0 => fun _ _ _ _ _ _ _ => False
  | n + 1 => fun h al0 xl2 xl4 xl5 xl6 xl7 => wb_X12_isDriven_17  (wl_X12_isDriven_17  post n) h al0 xl2 xl4 xl5 xl6 xl7 post
theorem tl_X12_isDriven_17 {G : GG} {p : Program} {l : Launch} {e : Env} {R : Room} {s : State} {m : MethodId} {args : Array Value} {below : List Frame} {meth : Method} {c : Code} {n0 s0 : Nat} {post : AH → Int32 → Prop} (C : Cx G p R s m args meth c 8 cX12_isDriven RX12 n0 s0 2 48) (hr : meth.sig.returnType = (some .boolean))   : ∀ (n : Nat) (h : AH) (al0 : Nat) (xl2 : Int32) (xl4 : Int32) (xl5 : Int32) (xl6 : Int32) (xl7 : Int32), wl_X12_isDriven_17  post n h al0 xl2 xl4 xl5 xl6 xl7 → AW G p l e R s m args below meth c 8 (QM G (pI post) args s below n0 s0) 17 [(0, .ref (G.1 + al0)), (2, .int xl2), (4, .int xl4), (5, .int xl5), (6, .int xl6), (7, .int xl7)] [] h := by
  intro n
  induction n with
  | zero => intro h al0 xl2 xl4 xl5 xl6 xl7 hw; exact hw.elim
  | succ n ih => intro h al0 xl2 xl4 xl5 xl6 xl7 hw; exact tb_X12_isDriven_17 C hr  ih hw
def wp_X12_isDriven (h : AH) (a0 : Nat) (x1 : Int32) (x2 : Int32) (x3 : Int32) (post : AH → Int32 → Prop) : Prop := (ob h a0 11) ∧ wp_X12_together h a0 x1 x3 (fun hv1 iv2 => ∃ n, wl_X12_isDriven_17  post n hv1 a0 x2 iv2 0 0 0)
set_option maxRecDepth 100000 in
theorem c_X12_isDriven (G : GG) (h : AH) (a0 : Nat) (x1 : Int32) (x2 : Int32) (x3 : Int32) (post : AH → Int32 → Prop) (hw : wp_X12_isDriven h a0 x1 x2 x3 post) : MC G yX12_isDriven cX12_isDriven 8 (some .boolean) 2 48 h [.ref (G.1 + a0), .int x1, .int x2, .int x3] (pI post) := by
  refine MC.of (lv := [(0, .ref (G.1 + a0)), (1, .int x1), (2, .int x2), (3, .int x3)]) (by decide) (Nat.le_of_ble_eq_true rfl) rfl fun p l e R s m args below meth c C hr hnm => ?_
  unfold wp_X12_isDriven at hw
  refine r_aload_n C dX12_isDriven_0 0 rfl ?_
  refine r_iload_n C dX12_isDriven_1 1 rfl ?_
  refine r_iload_n C dX12_isDriven_2 3 rfl ?_
  have hob := hw.1
  replace hw := hw.2
  refine r_callV C (As := [.int x1, .int x3]) (rest := []) (c_X12_together G h a0 x1 x3 _ hw) yl_X12_together (gm9 (List.mem_of_getElem? (i := 49) rfl) rfl) (gm9 (List.mem_of_getElem? (i := 51) rfl) rfl) (ci := 11) rfl (by decide) (gsel (List.mem_of_getElem? (i := 102) rfl)) hob (by decide) rfl (Nat.le_of_ble_eq_true rfl) dX12_isDriven_3 rfl (kI fun hv1 iv2 hw => ?_)
  refine r_istore C dX12_isDriven_6 [(4, .int iv2), (0, .ref (G.1 + a0)), (1, .int x1), (2, .int x2), (3, .int x3)] (by decide) rfl ?_
  refine r_iconst (v := 0) C dX12_isDriven_8 (by decide) ?_
  refine r_istore C dX12_isDriven_9 [(5, .int 0), (4, .int iv2), (0, .ref (G.1 + a0)), (1, .int x1), (2, .int x2), (3, .int x3)] (by decide) rfl ?_
  refine r_iconst (v := 0) C dX12_isDriven_11 (by decide) ?_
  refine r_istore C dX12_isDriven_12 [(6, .int 0), (5, .int 0), (4, .int iv2), (0, .ref (G.1 + a0)), (1, .int x1), (2, .int x2), (3, .int x3)] (by decide) rfl ?_
  refine r_iconst (v := 0) C dX12_isDriven_14 (by decide) ?_
  refine r_istore C dX12_isDriven_15 [(7, .int 0), (6, .int 0), (5, .int 0), (4, .int iv2), (0, .ref (G.1 + a0)), (1, .int x1), (2, .int x2), (3, .int x3)] (by decide) rfl ?_
  refine r_sub [4, 6, 3, 2, 1, 0] rfl ?_
  obtain ⟨n, hw⟩ := hw
  exact tl_X12_isDriven_17 C hr  n _ _ _ _ _ _ _ hw
