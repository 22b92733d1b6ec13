theorem ff_RX6_11_6 : FF RX6 11 6 1 := ⟨RX6, RX6, TX6, 15, ci6, by decide, (gm2 (List.mem_of_getElem? (i := 235) rfl) rfl), Or.inl rfl, rfl, rfl⟩
theorem fp_RX6_17_6 : FP RX6 17 6 2 := ⟨RX6, RX6, TX6, 15, ci6, by decide, (gm2 (List.mem_of_getElem? (i := 236) rfl) rfl), Or.inl rfl, rfl⟩
theorem ff_RX6_20_6 : FF RX6 20 6 7 := ⟨RX6, RX6, TX6, 15, ci6, by decide, (gm3 (List.mem_of_getElem? (i := 1) rfl) rfl), Or.inl rfl, rfl, rfl⟩
theorem fp_RX6_24_6 : FP RX6 24 6 8 := ⟨RX6, RX6, TX6, 15, ci6, by decide, (gm3 (List.mem_of_getElem? (i := 2) rfl) rfl), Or.inl rfl, rfl⟩
theorem ff_RX6_27_6 : FF RX6 27 6 10 := ⟨RX6, RX6, TX6, 15, ci6, by decide, (gm3 (List.mem_of_getElem? (i := 6) rfl) rfl), Or.inl rfl, rfl, rfl⟩
theorem fp_RX6_30_6 : FP RX6 30 6 14 := ⟨RX6, RX6, TX6, 15, ci6, by decide, (gm3 (List.mem_of_getElem? (i := 12) rfl) rfl), Or.inl rfl, rfl⟩
theorem nl_RX6_1 : NL RX6 1 0 := ⟨RX0, TX0, 9, ci0, (gm2 (List.mem_of_getElem? (i := 195) rfl) rfl), (gm2 (List.mem_of_getElem? (i := 196) rfl) rfl), (gm1 (List.mem_of_getElem? (i := 17) rfl) rfl), by decide⟩
theorem yl_X0_init : YL yX0_init cX0_init 2 none 1 := ⟨(gm2 (List.mem_of_getElem? (i := 199) rfl) rfl), (gm1 (List.mem_of_getElem? (i := 17) rfl) rfl), by decide, by decide, by decide +kernel⟩
theorem ff_RX6_37_6 : FF RX6 37 6 0 := ⟨RX6, RX6, TX6, 15, ci6, by decide, (gm2 (List.mem_of_getElem? (i := 234) rfl) rfl), Or.inl rfl, rfl, rfl⟩
theorem nl_RX6_41 : NL RX6 41 7 := ⟨RX8, TX8, 3, ci7, (gm2 (List.mem_of_getElem? (i := 232) rfl) rfl), (gm2 (List.mem_of_getElem? (i := 110) rfl) rfl), (gm1 (List.mem_of_getElem? (i := 14) rfl) rfl), by decide⟩
theorem ff_RX6_44_6 : FF RX6 44 6 6 := ⟨RX6, RX6, TX6, 15, ci6, by decide, (gm3 (List.mem_of_getElem? (i := 0) rfl) rfl), Or.inl rfl, rfl, rfl⟩
theorem fl_RX6_54_6 : FL RX6 54 6 3 := ⟨RX6, RX6, TX6, 15, ci6, by decide, (gm2 (List.mem_of_getElem? (i := 237) rfl) rfl), Or.inl rfl⟩
theorem fl_RX6_17_6 : FL RX6 17 6 2 := ⟨RX6, RX6, TX6, 15, ci6, by decide, (gm2 (List.mem_of_getElem? (i := 236) rfl) rfl), Or.inl rfl⟩
theorem yl_J7_copyOf_c38d5 : YL yJ7_copyOf_c38d5 cJ7_copyOf_c38d5 3 (some (.array .long)) 2 := ⟨(gm5 (List.mem_of_getElem? (i := 135) rfl) rfl), (gm1 (List.mem_of_getElem? (i := 11) rfl) rfl), by decide, by decide, by decide +kernel⟩
theorem fl_RX6_57_6 : FL RX6 57 6 4 := ⟨RX6, RX6, TX6, 15, ci6, by decide, (gm2 (List.mem_of_getElem? (i := 238) rfl) rfl), Or.inl rfl⟩
theorem fp_RX6_60_6 : FP RX6 60 6 5 := ⟨RX6, RX6, TX6, 15, ci6, by decide, (gm2 (List.mem_of_getElem? (i := 239) rfl) rfl), Or.inl rfl, rfl⟩
theorem fp_RX6_54_6 : FP RX6 54 6 3 := ⟨RX6, RX6, TX6, 15, ci6, by decide, (gm2 (List.mem_of_getElem? (i := 237) rfl) rfl), Or.inl rfl, rfl⟩
theorem fl_RX6_11_6 : FL RX6 11 6 1 := ⟨RX6, RX6, TX6, 15, ci6, by decide, (gm2 (List.mem_of_getElem? (i := 235) rfl) rfl), Or.inl rfl⟩
theorem fp_RX6_57_6 : FP RX6 57 6 4 := ⟨RX6, RX6, TX6, 15, ci6, by decide, (gm2 (List.mem_of_getElem? (i := 238) rfl) rfl), Or.inl rfl, rfl⟩
theorem yl_X6_push : YL yX6_push cX6_push 4 none 3 := ⟨(gm5 (List.mem_of_getElem? (i := 131) rfl) rfl), (gm1 (List.mem_of_getElem? (i := 16) rfl) rfl), by decide, by decide, by decide +kernel⟩
theorem yl_X6_fromAt : YL yX6_fromAt cX6_fromAt 2 (some .int) 1 := ⟨(gm5 (List.mem_of_getElem? (i := 177) rfl) rfl), (gm1 (List.mem_of_getElem? (i := 16) rfl) rfl), by decide, by decide, by decide +kernel⟩
theorem fl_RX6_24_6 : FL RX6 24 6 8 := ⟨RX6, RX6, TX6, 15, ci6, by decide, (gm3 (List.mem_of_getElem? (i := 2) rfl) rfl), Or.inl rfl⟩
theorem fp_RX6_77_6 : FP RX6 77 6 9 := ⟨RX6, RX6, TX6, 15, ci6, by decide, (gm3 (List.mem_of_getElem? (i := 4) rfl) rfl), Or.inl rfl, rfl⟩
theorem yl_X6_actAt : YL yX6_actAt cX6_actAt 2 (some .int) 1 := ⟨(gm5 (List.mem_of_getElem? (i := 181) rfl) rfl), (gm1 (List.mem_of_getElem? (i := 16) rfl) rfl), by decide, by decide, by decide +kernel⟩
theorem yl_X6_stateAt : YL yX6_stateAt cX6_stateAt 2 (some .int) 1 := ⟨(gm5 (List.mem_of_getElem? (i := 156) rfl) rfl), (gm1 (List.mem_of_getElem? (i := 16) rfl) rfl), by decide, by decide, by decide +kernel⟩
theorem fl_RX6_37_6 : FL RX6 37 6 0 := ⟨RX6, RX6, TX6, 15, ci6, by decide, (gm2 (List.mem_of_getElem? (i := 234) rfl) rfl), Or.inl rfl⟩
theorem yl_X0_roomFor : YL yX0_roomFor cX0_roomFor 7 (some .long) 3 := ⟨(gm5 (List.mem_of_getElem? (i := 164) rfl) rfl), (gm1 (List.mem_of_getElem? (i := 17) rfl) rfl), by decide, by decide, by decide +kernel⟩
theorem fl_RX6_124_0 : FL RX6 124 0 5 := ⟨RX0, RX0, TX0, 9, ci0, by decide, (gm2 (List.mem_of_getElem? (i := 209) rfl) rfl), Or.inl rfl⟩
theorem yl_X0_withNumber : YL yX0_withNumber cX0_withNumber 4 (some .int) 3 := ⟨(gm5 (List.mem_of_getElem? (i := 169) rfl) rfl), (gm1 (List.mem_of_getElem? (i := 17) rfl) rfl), by decide, by decide, by decide +kernel⟩
theorem yl_X6_isNew : YL yX6_isNew cX6_isNew 5 (some .boolean) 1 := ⟨(gm5 (List.mem_of_getElem? (i := 148) rfl) rfl), (gm1 (List.mem_of_getElem? (i := 16) rfl) rfl), by decide, by decide, by decide +kernel⟩
theorem yl_X0_list : YL yX0_list cX0_list 3 none 1 := ⟨(gm5 (List.mem_of_getElem? (i := 91) rfl) rfl), (gm1 (List.mem_of_getElem? (i := 17) rfl) rfl), by decide, by decide, by decide +kernel⟩
theorem yl_X0_link : YL yX0_link cX0_link 5 none 1 := ⟨(gm5 (List.mem_of_getElem? (i := 112) rfl) rfl), (gm1 (List.mem_of_getElem? (i := 17) rfl) rfl), by decide, by decide, by decide +kernel⟩
theorem yl_X0_stateOf : YL yX0_stateOf cX0_stateOf 5 (some .int) 1 := ⟨(gm5 (List.mem_of_getElem? (i := 122) rfl) rfl), (gm1 (List.mem_of_getElem? (i := 17) rfl) rfl), by decide, by decide, by decide +kernel⟩
theorem yl_X6_begin : YL yX6_begin cX6_begin 3 none 2 := ⟨(gm5 (List.mem_of_getElem? (i := 126) rfl) rfl), (gm1 (List.mem_of_getElem? (i := 16) rfl) rfl), by decide, by decide, by decide +kernel⟩
theorem fl_RX6_60_6 : FL RX6 60 6 5 := ⟨RX6, RX6, TX6, 15, ci6, by decide, (gm2 (List.mem_of_getElem? (i := 239) rfl) rfl), Or.inl rfl⟩
theorem fl_RX6_102_1 : FL RX6 102 1 5 := ⟨RX1, RX1, TX1, 16, ci1, by decide, (gm1 (List.mem_of_getElem? (i := 180) rfl) rfl), Or.inl rfl⟩
theorem yl_X6_goOnFrom : YL yX6_goOnFrom cX6_goOnFrom 11 none 2 := ⟨(gm5 (List.mem_of_getElem? (i := 152) rfl) rfl), (gm1 (List.mem_of_getElem? (i := 16) rfl) rfl), by decide, by decide, by decide +kernel⟩
theorem yl_X6_trace : YL yX6_trace cX6_trace 6 (some .int) 1 := ⟨(gm5 (List.mem_of_getElem? (i := 173) rfl) rfl), (gm1 (List.mem_of_getElem? (i := 16) rfl) rfl), by decide, by decide, by decide +kernel⟩
theorem yl_X0_weigh : YL yX0_weigh cX0_weigh 3 none 0 := ⟨(gm5 (List.mem_of_getElem? (i := 219) rfl) rfl), (gm1 (List.mem_of_getElem? (i := 17) rfl) rfl), by decide, by decide, by decide +kernel⟩
theorem fl_RX6_134_1 : FL RX6 134 1 15 := ⟨RX1, RX1, TX1, 16, ci1, by decide, (gm1 (List.mem_of_getElem? (i := 213) rfl) rfl), Or.inl rfl⟩
theorem fl_RX6_20_6 : FL RX6 20 6 7 := ⟨RX6, RX6, TX6, 15, ci6, by decide, (gm3 (List.mem_of_getElem? (i := 1) rfl) rfl), Or.inl rfl⟩
theorem yl_X10_sumUp : YL yX10_sumUp cX10_sumUp 5 none 1 := ⟨(gm5 (List.mem_of_getElem? (i := 232) rfl) rfl), (gm1 (List.mem_of_getElem? (i := 10) rfl) rfl), by decide, by decide, by decide +kernel⟩
theorem fl_RX6_144_9 : FL RX6 144 9 0 := ⟨RX10, RX10, TX10, 5, ci9, by decide, (gm1 (List.mem_of_getElem? (i := 144) rfl) rfl), Or.inl rfl⟩
theorem yl_X0_notSoIn : YL yX0_notSoIn cX0_notSoIn 3 (some .int) 1 := ⟨(gm5 (List.mem_of_getElem? (i := 236) rfl) rfl), (gm1 (List.mem_of_getElem? (i := 17) rfl) rfl), by decide, by decide, by decide +kernel⟩
theorem fl_RX8_61_1 : FL RX8 61 1 14 := ⟨RX1, RX1, TX1, 16, ci1, by decide, (gm1 (List.mem_of_getElem? (i := 206) rfl) rfl), Or.inl rfl⟩
theorem fl_RX8_65_4 : FL RX8 65 4 0 := ⟨RX4, RX4, TX4, 6, ci4, by decide, (gm1 (List.mem_of_getElem? (i := 105) rfl) rfl), Or.inl rfl⟩
theorem fl_RX8_70_4 : FL RX8 70 4 1 := ⟨RX4, RX4, TX4, 6, ci4, by decide, (gm1 (List.mem_of_getElem? (i := 110) rfl) rfl), Or.inl rfl⟩
theorem fl_RX8_73_4 : FL RX8 73 4 2 := ⟨RX4, RX4, TX4, 6, ci4, by decide, (gm1 (List.mem_of_getElem? (i := 112) rfl) rfl), Or.inl rfl⟩
theorem fl_RX8_80_4 : FL RX8 80 4 3 := ⟨RX4, RX4, TX4, 6, ci4, by decide, (gm1 (List.mem_of_getElem? (i := 114) rfl) rfl), Or.inl rfl⟩
theorem yl_X8_coveredBut : YL yX8_coveredBut cX8_coveredBut 5 (some .long) 1 := ⟨(gm4 (List.mem_of_getElem? (i := 183) rfl) rfl), (gm1 (List.mem_of_getElem? (i := 14) rfl) rfl), by decide, by decide, by decide +kernel⟩
theorem yl_X8_ropesReach : YL yX8_ropesReach cX8_ropesReach 6 (some .boolean) 2 := ⟨(gm4 (List.mem_of_getElem? (i := 187) rfl) rfl), (gm1 (List.mem_of_getElem? (i := 14) rfl) rfl), by decide, by decide, by decide +kernel⟩
theorem fl_RX6_44_6 : FL RX6 44 6 6 := ⟨RX6, RX6, TX6, 15, ci6, by decide, (gm3 (List.mem_of_getElem? (i := 0) rfl) rfl), Or.inl rfl⟩
theorem fl_RX6_154_7 : FL RX6 154 7 1 := ⟨RX8, RX8, TX8, 3, ci7, by decide, (gm2 (List.mem_of_getElem? (i := 119) rfl) rfl), Or.inl rfl⟩
theorem yl_X6_isNewSpot : YL yX6_isNewSpot cX6_isNewSpot 5 (some .boolean) 1 := ⟨(gm5 (List.mem_of_getElem? (i := 205) rfl) rfl), (gm1 (List.mem_of_getElem? (i := 16) rfl) rfl), by decide, by decide, by decide +kernel⟩
theorem yl_X8_attempt : YL yX8_attempt cX8_attempt 7 (some .int) 3 := ⟨(gm4 (List.mem_of_getElem? (i := 166) rfl) rfl), (gm1 (List.mem_of_getElem? (i := 14) rfl) rfl), by decide, by decide, by decide +kernel⟩
theorem fl_RX6_172_0 : FL RX6 172 0 1 := ⟨RX0, RX0, TX0, 9, ci0, by decide, (gm2 (List.mem_of_getElem? (i := 203) rfl) rfl), Or.inl rfl⟩
theorem fl_RX6_166_6 : FL RX6 166 6 11 := ⟨RX6, RX6, TX6, 15, ci6, by decide, (gm3 (List.mem_of_getElem? (i := 8) rfl) rfl), Or.inl rfl⟩
theorem fp_RX6_166_6 : FP RX6 166 6 11 := ⟨RX6, RX6, TX6, 15, ci6, by decide, (gm3 (List.mem_of_getElem? (i := 8) rfl) rfl), Or.inl rfl, rfl⟩
theorem fp_RX6_169_6 : FP RX6 169 6 12 := ⟨RX6, RX6, TX6, 15, ci6, by decide, (gm3 (List.mem_of_getElem? (i := 9) rfl) rfl), Or.inl rfl, rfl⟩
theorem fp_RX6_186_6 : FP RX6 186 6 13 := ⟨RX6, RX6, TX6, 15, ci6, by decide, (gm3 (List.mem_of_getElem? (i := 10) rfl) rfl), Or.inl rfl, rfl⟩
theorem yl_X6_tryLast : YL yX6_tryLast cX6_tryLast 7 none 2 := ⟨(gm6 (List.mem_of_getElem? (i := 17) rfl) rfl), (gm1 (List.mem_of_getElem? (i := 16) rfl) rfl), by decide, by decide, by decide +kernel⟩
theorem fl_RX6_186_6 : FL RX6 186 6 13 := ⟨RX6, RX6, TX6, 15, ci6, by decide, (gm3 (List.mem_of_getElem? (i := 10) rfl) rfl), Or.inl rfl⟩
theorem fl_RX6_169_6 : FL RX6 169 6 12 := ⟨RX6, RX6, TX6, 15, ci6, by decide, (gm3 (List.mem_of_getElem? (i := 9) rfl) rfl), Or.inl rfl⟩
theorem fl_RX6_27_6 : FL RX6 27 6 10 := ⟨RX6, RX6, TX6, 15, ci6, by decide, (gm3 (List.mem_of_getElem? (i := 6) rfl) rfl), Or.inl rfl⟩
theorem fl_RX6_189_0 : FL RX6 189 0 2 := ⟨RX0, RX0, TX0, 9, ci0, by decide, (gm2 (List.mem_of_getElem? (i := 205) rfl) rfl), Or.inl rfl⟩
theorem yl_X8_isSound : YL yX8_isSound cX8_isSound 4 (some .boolean) 0 := ⟨(gm4 (List.mem_of_getElem? (i := 114) rfl) rfl), (gm1 (List.mem_of_getElem? (i := 14) rfl) rfl), by decide, by decide, by decide +kernel⟩
theorem fl_RX8_97_1 : FL RX8 97 1 15 := ⟨RX1, RX1, TX1, 16, ci1, by decide, (gm1 (List.mem_of_getElem? (i := 211) rfl) rfl), Or.inl rfl⟩
theorem dX6_init_0 : decode cX6_init 0 = .ok (.aload_n 0, 1) := by decide +kernel
theorem dX6_init_1 : decode cX6_init 1 = .ok (.invokespecial 5, 3) := by decide +kernel
theorem dX6_init_4 : decode cX6_init 4 = .ok (.aload_n 0, 1) := by decide +kernel
theorem dX6_init_5 : decode cX6_init 5 = .ok (.sipush 1600, 3) := by decide +kernel
theorem dX6_init_8 : decode cX6_init 8 = .ok (.newarray .long, 2) := by decide +kernel
theorem dX6_init_10 : decode cX6_init 10 = .ok (.putfield 11, 3) := by decide +kernel
theorem dX6_init_13 : decode cX6_init 13 = .ok (.aload_n 0, 1) := by decide +kernel
theorem dX6_init_14 : decode cX6_init 14 = .ok (.sipush 256, 3) := by decide +kernel
theorem dX6_init_17 : decode cX6_init 17 = .ok (.newarray .long, 2) := by decide +kernel
theorem dX6_init_19 : decode cX6_init 19 = .ok (.putfield 17, 3) := by decide +kernel
theorem dX6_init_22 : decode cX6_init 22 = .ok (.aload_n 0, 1) := by decide +kernel
theorem dX6_init_23 : decode cX6_init 23 = .ok (.sipush 1024, 3) := by decide +kernel
theorem dX6_init_26 : decode cX6_init 26 = .ok (.newarray .int, 2) := by decide +kernel
theorem dX6_init_28 : decode cX6_init 28 = .ok (.putfield 20, 3) := by decide +kernel
theorem dX6_init_31 : decode cX6_init 31 = .ok (.aload_n 0, 1) := by decide +kernel
theorem dX6_init_32 : decode cX6_init 32 = .ok (.bipush 64, 2) := by decide +kernel
theorem dX6_init_34 : decode cX6_init 34 = .ok (.newarray .int, 2) := by decide +kernel
theorem dX6_init_36 : decode cX6_init 36 = .ok (.putfield 24, 3) := by decide +kernel
theorem dX6_init_39 : decode cX6_init 39 = .ok (.aload_n 0, 1) := by decide +kernel
theorem dX6_init_40 : decode cX6_init 40 = .ok (.iconst 3, 1) := by decide +kernel
theorem dX6_init_41 : decode cX6_init 41 = .ok (.newarray .int, 2) := by decide +kernel
theorem dX6_init_43 : decode cX6_init 43 = .ok (.putfield 27, 3) := by decide +kernel
theorem dX6_init_46 : decode cX6_init 46 = .ok (.aload_n 0, 1) := by decide +kernel
theorem dX6_init_47 : decode cX6_init 47 = .ok (.iconst (-1), 1) := by decide +kernel
theorem dX6_init_48 : decode cX6_init 48 = .ok (.putfield 30, 3) := by decide +kernel
theorem dX6_init_51 : decode cX6_init 51 = .ok (.aload_n 0, 1) := by decide +kernel
theorem dX6_init_52 : decode cX6_init 52 = .ok (.new 1, 3) := by decide +kernel
theorem dX6_init_55 : decode cX6_init 55 = .ok (.dup, 1) := by decide +kernel
theorem dX6_init_56 : decode cX6_init 56 = .ok (.aload_n 1, 1) := by decide +kernel
theorem dX6_init_57 : decode cX6_init 57 = .ok (.invokespecial 34, 3) := by decide +kernel
theorem dX6_init_60 : decode cX6_init 60 = .ok (.putfield 37, 3) := by decide +kernel
theorem dX6_init_63 : decode cX6_init 63 = .ok (.aload_n 0, 1) := by decide +kernel
theorem dX6_init_64 : decode cX6_init 64 = .ok (.new 41, 3) := by decide +kernel
theorem dX6_init_67 : decode cX6_init 67 = .ok (.dup, 1) := by decide +kernel
theorem dX6_init_68 : decode cX6_init 68 = .ok (.aload_n 1, 1) := by decide +kernel
theorem dX6_init_69 : decode cX6_init 69 = .ok (.invokespecial 43, 3) := by decide +kernel
theorem dX6_init_72 : decode cX6_init 72 = .ok (.putfield 44, 3) := by decide +kernel
theorem dX6_init_75 : decode cX6_init 75 = .ok (.return_, 1) := by decide +kernel
def wp_X6_init (h : AH) (a0 : Nat) (a1 : Nat) (post : AH → Prop) : Prop := (¬ (1600 : Int32) < 0) ∧ ((aN h < 601024 ∧ aS h + (1600 : Int32).toNatClampNeg ≤ 7293034) ∧ (∀ (hv1 : AH) (rv2 : Nat), hv1 = hNew h 14 (1600 : Int32).toNatClampNeg → rv2 = aN h → ((ob hv1 a0 6) ∧ (∀ hv3 : AH, hv3 = hP hv1 a0 1 rv2 → ((¬ (256 : Int32) < 0) ∧ ((aN hv3 < 601024 ∧ aS hv3 + (256 : Int32).toNatClampNeg ≤ 7293034) ∧ (∀ (hv4 : AH) (rv5 : Nat), hv4 = hNew hv3 14 (256 : Int32).toNatClampNeg → rv5 = aN hv3 → ((ob hv4 a0 6) ∧ (∀ hv6 : AH, hv6 = hP hv4 a0 2 rv5 → ((¬ (1024 : Int32) < 0) ∧ ((aN hv6 < 601024 ∧ aS hv6 + (1024 : Int32).toNatClampNeg ≤ 7293034) ∧ (∀ (hv7 : AH) (rv8 : Nat), hv7 = hNew hv6 13 (1024 : Int32).toNatClampNeg → rv8 = aN hv6 → ((ob hv7 a0 6) ∧ (∀ hv9 : AH, hv9 = hP hv7 a0 7 rv8 → ((¬ (64 : Int32) < 0) ∧ ((aN hv9 < 601024 ∧ aS hv9 + (64 : Int32).toNatClampNeg ≤ 7293034) ∧ (∀ (hv10 : AH) (rv11 : Nat), hv10 = hNew hv9 13 (64 : Int32).toNatClampNeg → rv11 = aN hv9 → ((ob hv10 a0 6) ∧ (∀ hv12 : AH, hv12 = hP hv10 a0 8 rv11 → ((¬ (3 : Int32) < 0) ∧ ((aN hv12 < 601024 ∧ aS hv12 + (3 : Int32).toNatClampNeg ≤ 7293034) ∧ (∀ (hv13 : AH) (rv14 : Nat), hv13 = hNew hv12 13 (3 : Int32).toNatClampNeg → rv14 = aN hv12 → ((ob hv13 a0 6) ∧ (∀ hv15 : AH, hv15 = hP hv13 a0 10 rv14 → ((ob hv15 a0 6) ∧ (∀ hv16 : AH, hv16 = hI hv15 a0 14 (-1) → ((aN hv16 < 601024 ∧ aS hv16 + 9 ≤ 7293034) ∧ (∀ (hv17 : AH) (rv18 : Nat), hv17 = hNew hv16 0 9 → rv18 = aN hv16 → (wp_X0_init hv17 rv18 a1 (fun hv19  => (ob hv19 a0 6) ∧ (∀ hv20 : AH, hv20 = hP hv19 a0 0 rv18 → ((aN hv20 < 601024 ∧ aS hv20 + 3 ≤ 7293034) ∧ (∀ (hv21 : AH) (rv22 : Nat), hv21 = hNew hv20 7 3 → rv22 = aN hv20 → (wp_X8_init hv21 rv22 a1 (fun hv23  => (ob hv23 a0 6) ∧ (∀ hv24 : AH, hv24 = hP hv23 a0 6 rv22 → (post hv24)))))))))))))))))))))))))))))))))))))
set_option maxRecDepth 100000 in
theorem c_X6_init (G : GG) (h : AH) (a0 : Nat) (a1 : Nat) (post : AH → Prop) (hw : wp_X6_init h a0 a1 post) : MC G yX6_init cX6_init 2 none 2 41 h [.ref (G.1 + a0), .ref (G.1 + a1)] (pV post) := by
  refine MC.of (lv := [(0, .ref (G.1 + a0)), (1, .ref (G.1 + a1))]) (by decide) (Nat.le_of_ble_eq_true rfl) rfl fun p l e R s m args below meth c C hr hnm => ?_
  unfold wp_X6_init at hw
  refine r_aload_n C dX6_init_0 0 rfl ?_
  refine r_objInit C (gm2 (List.mem_of_getElem? (i := 194) rfl) rfl) (gm1 (List.mem_of_getElem? (i := 32) rfl) rfl) (gm1 (List.mem_of_getElem? (i := 33) rfl) rfl) dX6_init_1 ⟨by decide, Nat.le_of_ble_eq_true rfl⟩ ?_
  refine r_aload_n C dX6_init_4 0 rfl ?_
  refine r_sipush (v := 1600) C dX6_init_5 (by decide) ?_
  refine r_newJ C hw.1 hw.2.1 dX6_init_8 (gm1 (List.mem_of_getElem? (i := 134) rfl) rfl) ?_
  replace hw := hw.2.2
  refine r_topn fun hv1 rv2 ehv1 erv2 => ?_
  replace hw := hw hv1 rv2 ehv1 erv2
  refine r_putPF C ff_RX6_11_6 hnm hw.1 (fun _ _ _ => rfl) dX6_init_10 ?_
  replace hw := hw.2
  refine r_toph fun hv3 ehv3 => ?_
  replace hw := hw hv3 ehv3
  refine r_aload_n C dX6_init_13 0 rfl ?_
  refine r_sipush (v := 256) C dX6_init_14 (by decide) ?_
  refine r_newJ C hw.1 hw.2.1 dX6_init_17 (gm1 (List.mem_of_getElem? (i := 134) rfl) rfl) ?_
  replace hw := hw.2.2
  refine r_topn fun hv4 rv5 ehv4 erv5 => ?_
  replace hw := hw hv4 rv5 ehv4 erv5
  refine r_putP C fp_RX6_17_6 hw.1 (fun _ _ _ => rfl) dX6_init_19 ?_
  replace hw := hw.2
  refine r_toph fun hv6 ehv6 => ?_
  replace hw := hw hv6 ehv6
  refine r_aload_n C dX6_init_22 0 rfl ?_
  refine r_sipush (v := 1024) C dX6_init_23 (by decide) ?_
  refine r_newI C hw.1 hw.2.1 dX6_init_26 (gm1 (List.mem_of_getElem? (i := 133) rfl) rfl) ?_
  replace hw := hw.2.2
  refine r_topn fun hv7 rv8 ehv7 erv8 => ?_
  replace hw := hw hv7 rv8 ehv7 erv8
  refine r_putPF C ff_RX6_20_6 hnm hw.1 (fun _ _ _ => rfl) dX6_init_28 ?_
  replace hw := hw.2
  refine r_toph fun hv9 ehv9 => ?_
  replace hw := hw hv9 ehv9
  refine r_aload_n C dX6_init_31 0 rfl ?_
  refine r_bipush (v := 64) C dX6_init_32 (by decide) ?_
  refine r_newI C hw.1 hw.2.1 dX6_init_34 (gm1 (List.mem_of_getElem? (i := 133) rfl) rfl) ?_
  replace hw := hw.2.2
  refine r_topn fun hv10 rv11 ehv10 erv11 => ?_
  replace hw := hw hv10 rv11 ehv10 erv11
  refine r_putP C fp_RX6_24_6 hw.1 (fun _ _ _ => rfl) dX6_init_36 ?_
  replace hw := hw.2
  refine r_toph fun hv12 ehv12 => ?_
  replace hw := hw hv12 ehv12
  refine r_aload_n C dX6_init_39 0 rfl ?_
  refine r_iconst (v := 3) C dX6_init_40 (by decide) ?_
  refine r_newI C hw.1 hw.2.1 dX6_init_41 (gm1 (List.mem_of_getElem? (i := 133) rfl) rfl) ?_
  replace hw := hw.2.2
  refine r_topn fun hv13 rv14 ehv13 erv14 => ?_
  replace hw := hw hv13 rv14 ehv13 erv14
  refine r_putPF C ff_RX6_27_6 hnm hw.1 (fun _ _ _ => rfl) dX6_init_43 ?_
  replace hw := hw.2
  refine r_toph fun hv15 ehv15 => ?_
  replace hw := hw hv15 ehv15
  refine r_aload_n C dX6_init_46 0 rfl ?_
  refine r_iconst (v := (-1)) C dX6_init_47 (by decide) ?_
  refine r_putI C fp_RX6_30_6 hw.1 rfl dX6_init_48 ?_
  replace hw := hw.2
  refine r_toph fun hv16 ehv16 => ?_
  replace hw := hw hv16 ehv16
  refine r_aload_n C dX6_init_51 0 rfl ?_
  refine r_new C (ci := 0) nl_RX6_1 hw.1 dX6_init_52 ?_
  replace hw := hw.2
  refine r_topn fun hv17 rv18 ehv17 erv18 => ?_
  replace hw := hw hv17 rv18 ehv17 erv18
  refine r_dup C dX6_init_55 rfl ?_
  refine r_aload_n C dX6_init_56 1 rfl ?_
  refine r_callI C (As := [.ref (G.1 + a1)]) (rest := [.ref (G.1 + rv18), .ref (G.1 + a0)]) (c_X0_init G hv17 rv18 a1 _ hw) yl_X0_init (gm2 (List.mem_of_getElem? (i := 197) rfl) rfl) (gm2 (List.mem_of_getElem? (i := 198) rfl) rfl) rfl (by decide) rfl (Nat.le_of_ble_eq_true rfl) dX6_init_57 rfl (kV fun hv19  hw => ?_)
  refine r_putPF C ff_RX6_37_6 hnm hw.1 (fun _ _ _ => rfl) dX6_init_60 ?_
  replace hw := hw.2
  refine r_toph fun hv20 ehv20 => ?_
  replace hw := hw hv20 ehv20
  refine r_aload_n C dX6_init_63 0 rfl ?_
  refine r_new C (ci := 7) nl_RX6_41 hw.1 dX6_init_64 ?_
  replace hw := hw.2
  refine r_topn fun hv21 rv22 ehv21 erv22 => ?_
  replace hw := hw hv21 rv22 ehv21 erv22
  refine r_dup C dX6_init_67 rfl ?_
  refine r_aload_n C dX6_init_68 1 rfl ?_
  refine r_callI C (As := [.ref (G.1 + a1)]) (rest := [.ref (G.1 + rv22), .ref (G.1 + a0)]) (c_X8_init G hv21 rv22 a1 _ hw) yl_X8_init (gm2 (List.mem_of_getElem? (i := 233) rfl) rfl) (gm2 (List.mem_of_getElem? (i := 112) rfl) rfl) rfl (by decide) rfl (Nat.le_of_ble_eq_true rfl) dX6_init_69 rfl (kV fun hv23  hw => ?_)
  refine r_putPF C ff_RX6_44_6 hnm hw.1 (fun _ _ _ => rfl) dX6_init_72 ?_
  replace hw := hw.2
  refine r_toph fun hv24 ehv24 => ?_
  replace hw := hw hv24 ehv24
  exact r_vret C hr dX6_init_75 hw
theorem dJ7_copyOf_c38d5_0 : decode cJ7_copyOf_c38d5 0 = .ok (.iload_n 1, 1) := by decide +kernel
theorem dJ7_copyOf_c38d5_1 : decode cJ7_copyOf_c38d5 1 = .ok (.aload_n 0, 1) := by decide +kernel
theorem dJ7_copyOf_c38d5_2 : decode cJ7_copyOf_c38d5 2 = .ok (.arraylength, 1) := by decide +kernel
theorem dJ7_copyOf_c38d5_3 : decode cJ7_copyOf_c38d5 3 = .ok (.if_icmp .ne 11, 3) := by decide +kernel
theorem dJ7_copyOf_c38d5_6 : decode cJ7_copyOf_c38d5 6 = .ok (.aload_n 0, 1) := by decide +kernel
theorem dJ7_copyOf_c38d5_7 : decode cJ7_copyOf_c38d5 7 = .ok (.invokevirtual 319, 3) := by decide +kernel
theorem dJ7_copyOf_c38d5_14 : decode cJ7_copyOf_c38d5 14 = .ok (.iload_n 1, 1) := by decide +kernel
theorem dJ7_copyOf_c38d5_15 : decode cJ7_copyOf_c38d5 15 = .ok (.newarray .long, 2) := by decide +kernel
theorem dJ7_copyOf_c38d5_17 : decode cJ7_copyOf_c38d5 17 = .ok (.astore_n 2, 1) := by decide +kernel
theorem dJ7_copyOf_c38d5_18 : decode cJ7_copyOf_c38d5 18 = .ok (.aload_n 0, 1) := by decide +kernel
theorem dJ7_copyOf_c38d5_19 : decode cJ7_copyOf_c38d5 19 = .ok (.iconst 0, 1) := by decide +kernel
theorem dJ7_copyOf_c38d5_20 : decode cJ7_copyOf_c38d5 20 = .ok (.aload_n 2, 1) := by decide +kernel
theorem dJ7_copyOf_c38d5_21 : decode cJ7_copyOf_c38d5 21 = .ok (.iconst 0, 1) := by decide +kernel
theorem dJ7_copyOf_c38d5_22 : decode cJ7_copyOf_c38d5 22 = .ok (.aload_n 0, 1) := by decide +kernel
theorem dJ7_copyOf_c38d5_23 : decode cJ7_copyOf_c38d5 23 = .ok (.arraylength, 1) := by decide +kernel
theorem dJ7_copyOf_c38d5_24 : decode cJ7_copyOf_c38d5 24 = .ok (.iload_n 1, 1) := by decide +kernel
theorem dJ7_copyOf_c38d5_25 : decode cJ7_copyOf_c38d5 25 = .ok (.invokestatic 304, 3) := by decide +kernel
theorem dJ7_copyOf_c38d5_28 : decode cJ7_copyOf_c38d5 28 = .ok (.invokestatic 150, 3) := by decide +kernel
theorem dJ7_copyOf_c38d5_31 : decode cJ7_copyOf_c38d5 31 = .ok (.aload_n 2, 1) := by decide +kernel
theorem dJ7_copyOf_c38d5_32 : decode cJ7_copyOf_c38d5 32 = .ok (.areturn, 1) := by decide +kernel
def wp_J7_copyOf_c38d5 (h : AH) (a0 : Nat) (x1 : Int32) (post : AH → Nat → Prop) : Prop := ((aK h a0 = 12 ∨ aK h a0 = 13 ∨ aK h a0 = 14) ∧ a0 < aN h) ∧ ((¬ x1 = (nI (aL h a0)) → ((¬ x1 < 0) ∧ ((aN h < 601024 ∧ aS h + x1.toNatClampNeg ≤ 7293034) ∧ (∀ (hv1 : AH) (rv2 : Nat), hv1 = hNew h 14 x1.toNatClampNeg → rv2 = aN h → (((aK hv1 a0 = 12 ∨ aK hv1 a0 = 13 ∨ aK hv1 a0 = 14) ∧ a0 < aN hv1) ∧ ((ob hv1 a0 14) ∧ ((ob hv1 rv2 14) ∧ ((¬ (0 : Int32) < 0) ∧ ((¬ (0 : Int32) < 0) ∧ ((¬ (mn (nI (aL hv1 a0)) x1) < 0) ∧ (((0 : Int32).toNatClampNeg + (mn (nI (aL hv1 a0)) x1).toNatClampNeg ≤ aL hv1 a0) ∧ (((0 : Int32).toNatClampNeg + (mn (nI (aL hv1 a0)) x1).toNatClampNeg ≤ aL hv1 rv2) ∧ (∀ hv3 : AH, hv3 = hRJ hv1 rv2 (va_cpy (aJ hv1 a0) (aJ hv1 rv2) (0 : Int32).toNatClampNeg (0 : Int32).toNatClampNeg (mn (nI (aL hv1 a0)) x1).toNatClampNeg) → (post hv3 rv2)))))))))))))) ∧ (x1 = (nI (aL h a0)) → (False)))
set_option maxRecDepth 100000 in
theorem c_J7_copyOf_c38d5 (G : GG) (h : AH) (a0 : Nat) (x1 : Int32) (post : AH → Nat → Prop) (hw : wp_J7_copyOf_c38d5 h a0 x1 post) : MC G yJ7_copyOf_c38d5 cJ7_copyOf_c38d5 3 (some (.array .long)) 1 26 h [.ref (G.1 + a0), .int x1] (pP G post) := by
  refine MC.of (lv := [(0, .ref (G.1 + a0)), (1, .int x1)]) (by decide) (Nat.le_of_ble_eq_true rfl) rfl fun p l e R s m args below meth c C hr hnm => ?_
  unfold wp_J7_copyOf_c38d5 at hw
  refine r_iload_n C dJ7_copyOf_c38d5_0 1 rfl ?_
  refine r_aload_n C dJ7_copyOf_c38d5_1 0 rfl ?_
  refine r_alen C hw.1 dJ7_copyOf_c38d5_2 ?_
  replace hw := hw.2
  refine r_icmp_ne C dJ7_copyOf_c38d5_3 14 (by decide) (fun hc => ?_) (fun hc => ?_)
  · replace hw := hw.1 hc
    refine r_iload_n C dJ7_copyOf_c38d5_14 1 rfl ?_
    refine r_newJ C hw.1 hw.2.1 dJ7_copyOf_c38d5_15 (gm1 (List.mem_of_getElem? (i := 134) rfl) rfl) ?_
    replace hw := hw.2.2
    refine r_topn fun hv1 rv2 ehv1 erv2 => ?_
    replace hw := hw hv1 rv2 ehv1 erv2
    refine r_astore_n C dJ7_copyOf_c38d5_17 [(2, .ref (G.1 + rv2)), (0, .ref (G.1 + a0)), (1, .int x1)] (by decide) rfl ?_
    refine r_aload_n C dJ7_copyOf_c38d5_18 1 rfl ?_
    refine r_iconst (v := 0) C dJ7_copyOf_c38d5_19 (by decide) ?_
    refine r_aload_n C dJ7_copyOf_c38d5_20 0 rfl ?_
    refine r_iconst (v := 0) C dJ7_copyOf_c38d5_21 (by decide) ?_
    refine r_aload_n C dJ7_copyOf_c38d5_22 1 rfl ?_
    refine r_alen C hw.1 dJ7_copyOf_c38d5_23 ?_
    replace hw := hw.2
    refine r_iload_n C dJ7_copyOf_c38d5_24 2 rfl ?_
    refine r_mmin C (gm5 (List.mem_of_getElem? (i := 143) rfl) rfl) (gm3 (List.mem_of_getElem? (i := 122) rfl) rfl) (gm1 (List.mem_of_getElem? (i := 19) rfl) rfl) (gm3 (List.mem_of_getElem? (i := 123) rfl) rfl) ⟨by decide, Nat.le_of_ble_eq_true rfl⟩ dJ7_copyOf_c38d5_25 ?_
    refine r_copyJ C (gm5 (List.mem_of_getElem? (i := 144) rfl) rfl) (gm4 (List.mem_of_getElem? (i := 122) rfl) rfl) (gm4 (List.mem_of_getElem? (i := 121) rfl) rfl) (gm1 (List.mem_of_getElem? (i := 24) rfl) rfl) hw.1 hw.2.1 hw.2.2.1 hw.2.2.2.1 hw.2.2.2.2.1 hw.2.2.2.2.2.1 hw.2.2.2.2.2.2.1 ⟨by decide, Nat.le_of_ble_eq_true rfl⟩ dJ7_copyOf_c38d5_28 ?_
    replace hw := hw.2.2.2.2.2.2.2
    refine r_toph fun hv3 ehv3 => ?_
    replace hw := hw hv3 ehv3
    refine r_aload_n C dJ7_copyOf_c38d5_31 0 rfl ?_
    exact r_aret C hr (Or.inr ⟨_, rfl⟩) dJ7_copyOf_c38d5_32 hw
  · replace hw := hw.2 hc
    refine r_aload_n C dJ7_copyOf_c38d5_6 0 rfl ?_
    exact hw.elim
theorem dX6_push_0 : decode cX6_push 0 = .ok (.aload_n 0, 1) := by decide +kernel
theorem dX6_push_1 : decode cX6_push 1 = .ok (.getfield 54, 3) := by decide +kernel
theorem dX6_push_4 : decode cX6_push 4 = .ok (.ldc 67, 2) := by decide +kernel
theorem dX6_push_6 : decode cX6_push 6 = .ok (.if_icmp .lt 4, 3) := by decide +kernel
theorem dX6_push_9 : decode cX6_push 9 = .ok (.return_, 1) := by decide +kernel
theorem dX6_push_10 : decode cX6_push 10 = .ok (.aload_n 0, 1) := by decide +kernel
theorem dX6_push_11 : decode cX6_push 11 = .ok (.getfield 54, 3) := by decide +kernel
theorem dX6_push_14 : decode cX6_push 14 = .ok (.aload_n 0, 1) := by decide +kernel
theorem dX6_push_15 : decode cX6_push 15 = .ok (.getfield 17, 3) := by decide +kernel
theorem dX6_push_18 : decode cX6_push 18 = .ok (.arraylength, 1) := by decide +kernel
theorem dX6_push_19 : decode cX6_push 19 = .ok (.if_icmp .lt 21, 3) := by decide +kernel
theorem dX6_push_22 : decode cX6_push 22 = .ok (.aload_n 0, 1) := by decide +kernel
theorem dX6_push_23 : decode cX6_push 23 = .ok (.aload_n 0, 1) := by decide +kernel
theorem dX6_push_24 : decode cX6_push 24 = .ok (.getfield 17, 3) := by decide +kernel
theorem dX6_push_27 : decode cX6_push 27 = .ok (.iconst 2, 1) := by decide +kernel
theorem dX6_push_28 : decode cX6_push 28 = .ok (.aload_n 0, 1) := by decide +kernel
theorem dX6_push_29 : decode cX6_push 29 = .ok (.getfield 17, 3) := by decide +kernel
theorem dX6_push_32 : decode cX6_push 32 = .ok (.arraylength, 1) := by decide +kernel
theorem dX6_push_33 : decode cX6_push 33 = .ok (.imul, 1) := by decide +kernel
theorem dX6_push_34 : decode cX6_push 34 = .ok (.invokestatic 68, 3) := by decide +kernel
theorem dX6_push_37 : decode cX6_push 37 = .ok (.putfield 17, 3) := by decide +kernel
theorem dX6_push_40 : decode cX6_push 40 = .ok (.aload_n 0, 1) := by decide +kernel
theorem dX6_push_41 : decode cX6_push 41 = .ok (.getfield 17, 3) := by decide +kernel
theorem dX6_push_44 : decode cX6_push 44 = .ok (.aload_n 0, 1) := by decide +kernel
theorem dX6_push_45 : decode cX6_push 45 = .ok (.getfield 54, 3) := by decide +kernel
theorem dX6_push_48 : decode cX6_push 48 = .ok (.iload_n 3, 1) := by decide +kernel
theorem dX6_push_49 : decode cX6_push 49 = .ok (.i2l, 1) := by decide +kernel
theorem dX6_push_50 : decode cX6_push 50 = .ok (.bipush 24, 2) := by decide +kernel
theorem dX6_push_52 : decode cX6_push 52 = .ok (.lshl, 1) := by decide +kernel
theorem dX6_push_53 : decode cX6_push 53 = .ok (.iload_n 2, 1) := by decide +kernel
theorem dX6_push_54 : decode cX6_push 54 = .ok (.i2l, 1) := by decide +kernel
theorem dX6_push_55 : decode cX6_push 55 = .ok (.bipush 18, 2) := by decide +kernel
theorem dX6_push_57 : decode cX6_push 57 = .ok (.lshl, 1) := by decide +kernel
theorem dX6_push_58 : decode cX6_push 58 = .ok (.lor, 1) := by decide +kernel
theorem dX6_push_59 : decode cX6_push 59 = .ok (.iload_n 1, 1) := by decide +kernel
theorem dX6_push_60 : decode cX6_push 60 = .ok (.i2l, 1) := by decide +kernel
theorem dX6_push_61 : decode cX6_push 61 = .ok (.lor, 1) := by decide +kernel
theorem dX6_push_62 : decode cX6_push 62 = .ok (.lastore, 1) := by decide +kernel
theorem dX6_push_63 : decode cX6_push 63 = .ok (.iload_n 1, 1) := by decide +kernel
theorem dX6_push_64 : decode cX6_push 64 = .ok (.aload_n 0, 1) := by decide +kernel
theorem dX6_push_65 : decode cX6_push 65 = .ok (.getfield 57, 3) := by decide +kernel
theorem dX6_push_68 : decode cX6_push 68 = .ok (.if_icmp .ne 11, 3) := by decide +kernel
theorem dX6_push_71 : decode cX6_push 71 = .ok (.aload_n 0, 1) := by decide +kernel
theorem dX6_push_72 : decode cX6_push 72 = .ok (.aload_n 0, 1) := by decide +kernel
theorem dX6_push_73 : decode cX6_push 73 = .ok (.getfield 54, 3) := by decide +kernel
theorem dX6_push_76 : decode cX6_push 76 = .ok (.putfield 60, 3) := by decide +kernel
theorem dX6_push_79 : decode cX6_push 79 = .ok (.aload_n 0, 1) := by decide +kernel
theorem dX6_push_80 : decode cX6_push 80 = .ok (.dup, 1) := by decide +kernel
theorem dX6_push_81 : decode cX6_push 81 = .ok (.getfield 54, 3) := by decide +kernel
theorem dX6_push_84 : decode cX6_push 84 = .ok (.iconst 1, 1) := by decide +kernel
theorem dX6_push_85 : decode cX6_push 85 = .ok (.iadd, 1) := by decide +kernel
theorem dX6_push_86 : decode cX6_push 86 = .ok (.putfield 54, 3) := by decide +kernel
theorem dX6_push_89 : decode cX6_push 89 = .ok (.return_, 1) := by decide +kernel
def wb_X6_push_79  (h : AH) (al0 : Nat)  (post : AH → Prop) : Prop := (ob h al0 6) ∧ ((ob h al0 6) ∧ (∀ hv1 : AH, hv1 = hI h al0 3 ((aI h al0 3) + (1 : Int32)) → (post hv1)))
set_option maxRecDepth 100000 in
theorem tb_X6_push_79 {G : GG} {p : Program} {l : Launch} {e : Env} {R : Room} {s : State} {m : MethodId} {args : Array Value} {below : List Frame} {meth : Method} {c : Code} {n0 s0 : Nat} {post : AH → Prop} (C : Cx G p R s m args meth c 4 cX6_push RX6 n0 s0 2 48) (hr : meth.sig.returnType = none)   {h : AH} {al0 : Nat}  (hw : wb_X6_push_79  h al0 post) : AW G p l e R s m args below meth c 4 (QM G (pV post) args s below n0 s0) 79 [(0, .ref (G.1 + al0))] [] h := by
  unfold wb_X6_push_79 at hw
  refine r_aload_n C dX6_push_79 0 rfl ?_
  refine r_dup C dX6_push_80 rfl ?_
  refine r_getI C fl_RX6_54_6 hw.1 (fun _ _ _ => rfl) dX6_push_81 ?_
  replace hw := hw.2
  refine r_iconst (v := 1) C dX6_push_84 (by decide) ?_
  refine r_iadd C dX6_push_85 ?_
  refine r_putI C fp_RX6_54_6 hw.1 rfl dX6_push_86 ?_
  replace hw := hw.2
  refine r_toph fun hv1 ehv1 => ?_
  replace hw := hw hv1 ehv1
  exact r_vret C hr dX6_push_89 hw
def wb_X6_push_40  (h : AH) (al0 : Nat) (xl1 : Int32) (xl2 : Int32) (xl3 : Int32)  (post : AH → Prop) : Prop := (ob h al0 6) ∧ (∃ rv1, aP h al0 2 = some rv1 ∧ ((ob h al0 6) ∧ ((ob h rv1 14) ∧ ((vp_in (aI h al0 3) (aL h rv1)) ∧ (∀ hv2 : AH, hv2 = hJ h rv1 (aI h al0 3).toNatClampNeg (((xl3.toInt64 <<< ((24 : Int32).toInt64 &&& 63)) ||| (xl2.toInt64 <<< ((18 : Int32).toInt64 &&& 63))) ||| xl1.toInt64) → ((ob hv2 al0 6) ∧ ((¬ xl1 = (aI hv2 al0 4) → (wb_X6_push_79  hv2 al0 post)) ∧ (xl1 = (aI hv2 al0 4) → ((ob hv2 al0 6) ∧ ((ob hv2 al0 6) ∧ (∀ hv3 : AH, hv3 = hI hv2 al0 5 (aI hv2 al0 3) → (wb_X6_push_79  hv3 al0 post))))))))))))
set_option maxRecDepth 100000 in
theorem tb_X6_push_40 {G : GG} {p : Program} {l : Launch} {e : Env} {R : Room} {s : State} {m : MethodId} {args : Array Value} {below : List Frame} {meth : Method} {c : Code} {n0 s0 : Nat} {post : AH → Prop} (C : Cx G p R s m args meth c 4 cX6_push RX6 n0 s0 2 48) (hr : meth.sig.returnType = none)   {h : AH} {al0 : Nat} {xl1 : Int32} {xl2 : Int32} {xl3 : Int32}  (hw : wb_X6_push_40  h al0 xl1 xl2 xl3 post) : AW G p l e R s m args below meth c 4 (QM G (pV post) args s below n0 s0) 40 [(0, .ref (G.1 + al0)), (1, .int xl1), (2, .int xl2), (3, .int xl3)] [] h := by
  unfold wb_X6_push_40 at hw
  refine r_aload_n C dX6_push_40 0 rfl ?_
  have hob := hw.1
  obtain ⟨rv1, hp, hw⟩ := hw.2
  refine r_getP C fl_RX6_17_6 hob hp (fun _ _ _ => rfl) dX6_push_41 ?_
  refine r_aload_n C dX6_push_44 0 rfl ?_
  refine r_getI C fl_RX6_54_6 hw.1 (fun _ _ _ => rfl) dX6_push_45 ?_
  replace hw := hw.2
  refine r_iload_n C dX6_push_48 3 rfl ?_
  refine r_i2l C dX6_push_49 ?_
  refine r_bipush (v := 24) C dX6_push_50 (by decide) ?_
  refine r_lshl C dX6_push_52 ?_
  refine r_iload_n C dX6_push_53 2 rfl ?_
  refine r_i2l C dX6_push_54 ?_
  refine r_bipush (v := 18) C dX6_push_55 (by decide) ?_
  refine r_lshl C dX6_push_57 ?_
  refine r_lor C dX6_push_58 ?_
  refine r_iload_n C dX6_push_59 1 rfl ?_
  refine r_i2l C dX6_push_60 ?_
  refine r_lor C dX6_push_61 ?_
  refine r_lastore C hw.1 hw.2.1 dX6_push_62 ?_
  replace hw := hw.2.2
  refine r_toph fun hv2 ehv2 => ?_
  replace hw := hw hv2 ehv2
  refine r_iload_n C dX6_push_63 1 rfl ?_
  refine r_aload_n C dX6_push_64 0 rfl ?_
  refine r_getI C fl_RX6_57_6 hw.1 (fun _ _ _ => rfl) dX6_push_65 ?_
  replace hw := hw.2
  refine r_icmp_ne C dX6_push_68 79 (by decide) (fun hc => ?_) (fun hc => ?_)
  · replace hw := hw.1 hc
    refine r_sub [0] rfl ?_
    exact tb_X6_push_79 C hr  hw
  · replace hw := hw.2 hc
    refine r_aload_n C dX6_push_71 0 rfl ?_
    refine r_aload_n C dX6_push_72 0 rfl ?_
    refine r_getI C fl_RX6_54_6 hw.1 (fun _ _ _ => rfl) dX6_push_73 ?_
    replace hw := hw.2
    refine r_putI C fp_RX6_60_6 hw.1 rfl dX6_push_76 ?_
    replace hw := hw.2
    refine r_toph fun hv3 ehv3 => ?_
    replace hw := hw hv3 ehv3
    refine r_sub [0] rfl ?_
    exact tb_X6_push_79 C hr  hw
def wp_X6_push (h : AH) (a0 : Nat) (x1 : Int32) (x2 : Int32) (x3 : Int32) (post : AH → Prop) : Prop := (ob h a0 6) ∧ (((aI h a0 3) < 64000 → ((ob h a0 6) ∧ ((ob h a0 6) ∧ (∃ rv1, aP h a0 2 = some rv1 ∧ (((aK h rv1 = 12 ∨ aK h rv1 = 13 ∨ aK h rv1 = 14) ∧ rv1 < aN h) ∧ (((aI h a0 3) < (nI (aL h rv1)) → (wb_X6_push_40  h a0 x1 x2 x3 post)) ∧ (¬ (aI h a0 3) < (nI (aL h rv1)) → ((ob h a0 6) ∧ (∃ rv2, aP h a0 2 = some rv2 ∧ ((ob h a0 6) ∧ (∃ rv3, aP h a0 2 = some rv3 ∧ (((aK h rv3 = 12 ∨ aK h rv3 = 13 ∨ aK h rv3 = 14) ∧ rv3 < aN h) ∧ (wp_J7_copyOf_c38d5 h rv2 ((2 : Int32) * (nI (aL h rv3))) (fun hv4 rv5 => (ob hv4 a0 6) ∧ (∀ hv6 : AH, hv6 = hP hv4 a0 2 rv5 → (wb_X6_push_40  hv6 a0 x1 x2 x3 post)))))))))))))))) ∧ (¬ (aI h a0 3) < 64000 → (post h)))
set_option maxRecDepth 100000 in
theorem c_X6_push (G : GG) (h : AH) (a0 : Nat) (x1 : Int32) (x2 : Int32) (x3 : Int32) (post : AH → Prop) (hw : wp_X6_push h a0 x1 x2 x3 post) : MC G yX6_push cX6_push 4 none 2 48 h [.ref (G.1 + a0), .int x1, .int x2, .int x3] (pV post) := by
  refine MC.of (lv := [(0, .ref (G.1 + a0)), (1, .int x1), (2, .int x2), (3, .int x3)]) (by decide) (Nat.le_of_ble_eq_true rfl) rfl fun p l e R s m args below meth c C hr hnm => ?_
  unfold wp_X6_push at hw
  refine r_aload_n C dX6_push_0 0 rfl ?_
  refine r_getI C fl_RX6_54_6 hw.1 (fun _ _ _ => rfl) dX6_push_1 ?_
  replace hw := hw.2
  refine r_ldc (v := 64000) C (gm5 (List.mem_of_getElem? (i := 132) rfl) rfl) dX6_push_4 ?_
  refine r_icmp_lt C dX6_push_6 10 (by decide) (fun hc => ?_) (fun hc => ?_)
  · replace hw := hw.1 hc
    refine r_aload_n C dX6_push_10 0 rfl ?_
    refine r_getI C fl_RX6_54_6 hw.1 (fun _ _ _ => rfl) dX6_push_11 ?_
    replace hw := hw.2
    refine r_aload_n C dX6_push_14 0 rfl ?_
    have hob := hw.1
    obtain ⟨rv1, hp, hw⟩ := hw.2
    refine r_getP C fl_RX6_17_6 hob hp (fun _ _ _ => rfl) dX6_push_15 ?_
    refine r_alen C hw.1 dX6_push_18 ?_
    replace hw := hw.2
    refine r_icmp_lt C dX6_push_19 40 (by decide) (fun hc => ?_) (fun hc => ?_)
    · replace hw := hw.1 hc
      refine r_sub [0, 1, 2, 3] rfl ?_
      exact tb_X6_push_40 C hr  hw
    · replace hw := hw.2 hc
      refine r_aload_n C dX6_push_22 0 rfl ?_
      refine r_aload_n C dX6_push_23 0 rfl ?_
      have hob := hw.1
      obtain ⟨rv2, hp, hw⟩ := hw.2
      refine r_getP C fl_RX6_17_6 hob hp (fun _ _ _ => rfl) dX6_push_24 ?_
      refine r_iconst (v := 2) C dX6_push_27 (by decide) ?_
      refine r_aload_n C dX6_push_28 0 rfl ?_
      have hob := hw.1
      obtain ⟨rv3, hp, hw⟩ := hw.2
      refine r_getP C fl_RX6_17_6 hob hp (fun _ _ _ => rfl) dX6_push_29 ?_
      refine r_alen C hw.1 dX6_push_32 ?_
      replace hw := hw.2
      refine r_imul C dX6_push_33 ?_
      refine r_callS C (As := [.ref (G.1 + rv2), .int ((2 : Int32) * (nI (aL h rv3)))]) (rest := [.ref (G.1 + a0)]) (c_J7_copyOf_c38d5 G h rv2 ((2 : Int32) * (nI (aL h rv3))) _ hw) yl_J7_copyOf_c38d5 (gm5 (List.mem_of_getElem? (i := 133) rfl) rfl) (gm5 (List.mem_of_getElem? (i := 134) rfl) rfl) (by decide) rfl (Nat.le_of_ble_eq_true rfl) dX6_push_34 rfl (kP fun hv4 rv5 hw => ?_)
      refine r_putP C fp_RX6_17_6 hw.1 (fun _ _ _ => rfl) dX6_push_37 ?_
      replace hw := hw.2
      refine r_toph fun hv6 ehv6 => ?_
      replace hw := hw hv6 ehv6
      refine r_sub [0, 1, 2, 3] rfl ?_
      exact tb_X6_push_40 C hr  hw
  · replace hw := hw.2 hc
    exact r_vret C hr dX6_push_9 hw
theorem dX6_begin_0 : decode cX6_begin 0 = .ok (.aload_n 0, 1) := by decide +kernel
theorem dX6_begin_1 : decode cX6_begin 1 = .ok (.getfield 11, 3) := by decide +kernel
theorem dX6_begin_4 : decode cX6_begin 4 = .ok (.lconst 0, 1) := by decide +kernel
theorem dX6_begin_5 : decode cX6_begin 5 = .ok (.invokestatic 48, 3) := by decide +kernel
theorem dX6_begin_8 : decode cX6_begin 8 = .ok (.aload_n 0, 1) := by decide +kernel
theorem dX6_begin_9 : decode cX6_begin 9 = .ok (.iconst 0, 1) := by decide +kernel
theorem dX6_begin_10 : decode cX6_begin 10 = .ok (.putfield 54, 3) := by decide +kernel
theorem dX6_begin_13 : decode cX6_begin 13 = .ok (.aload_n 0, 1) := by decide +kernel
theorem dX6_begin_14 : decode cX6_begin 14 = .ok (.iload_n 2, 1) := by decide +kernel
theorem dX6_begin_15 : decode cX6_begin 15 = .ok (.putfield 57, 3) := by decide +kernel
theorem dX6_begin_18 : decode cX6_begin 18 = .ok (.aload_n 0, 1) := by decide +kernel
theorem dX6_begin_19 : decode cX6_begin 19 = .ok (.iconst (-1), 1) := by decide +kernel
theorem dX6_begin_20 : decode cX6_begin 20 = .ok (.putfield 60, 3) := by decide +kernel
theorem dX6_begin_23 : decode cX6_begin 23 = .ok (.aload_n 0, 1) := by decide +kernel
theorem dX6_begin_24 : decode cX6_begin 24 = .ok (.iload_n 1, 1) := by decide +kernel
theorem dX6_begin_25 : decode cX6_begin 25 = .ok (.iconst 0, 1) := by decide +kernel
theorem dX6_begin_26 : decode cX6_begin 26 = .ok (.iconst 0, 1) := by decide +kernel
theorem dX6_begin_27 : decode cX6_begin 27 = .ok (.invokevirtual 63, 3) := by decide +kernel
theorem dX6_begin_30 : decode cX6_begin 30 = .ok (.return_, 1) := by decide +kernel
def wp_X6_begin (h : AH) (a0 : Nat) (x1 : Int32) (x2 : Int32) (post : AH → Prop) : Prop := (ob h a0 6) ∧ (∃ rv1, aP h a0 1 = some rv1 ∧ (wp_J7_fill_d0a16 h rv1 0 (fun hv2  => (ob hv2 a0 6) ∧ (∀ hv3 : AH, hv3 = hI hv2 a0 3 0 → ((ob hv3 a0 6) ∧ (∀ hv4 : AH, hv4 = hI hv3 a0 4 x2 → ((ob hv4 a0 6) ∧ (∀ hv5 : AH, hv5 = hI hv4 a0 5 (-1) → ((ob hv5 a0 6) ∧ wp_X6_push hv5 a0 x1 0 0 (fun hv6  => post hv6))))))))))
set_option maxRecDepth 100000 in
theorem c_X6_begin (G : GG) (h : AH) (a0 : Nat) (x1 : Int32) (x2 : Int32) (post : AH → Prop) (hw : wp_X6_begin h a0 x1 x2 post) : MC G yX6_begin cX6_begin 3 none 3 71 h [.ref (G.1 + a0), .int x1, .int x2] (pV post) := by
  refine MC.of (lv := [(0, .ref (G.1 + a0)), (1, .int x1), (2, .int x2)]) (by decide) (Nat.le_of_ble_eq_true rfl) rfl fun p l e R s m args below meth c C hr hnm => ?_
  unfold wp_X6_begin at hw
  refine r_aload_n C dX6_begin_0 0 rfl ?_
  have hob := hw.1
  obtain ⟨rv1, hp, hw⟩ := hw.2
  refine r_getP C fl_RX6_11_6 hob hp (fun _ _ _ => rfl) dX6_begin_1 ?_
  refine r_lconst (v := 0) C dX6_begin_4 (by decide) ?_
  refine r_callS C (As := [.ref (G.1 + rv1), .long 0]) (rest := []) (c_J7_fill_d0a16 G h rv1 0 _ hw) yl_J7_fill_d0a16 (gm5 (List.mem_of_getElem? (i := 127) rfl) rfl) (gm3 (List.mem_of_getElem? (i := 129) rfl) rfl) (by decide) rfl (Nat.le_of_ble_eq_true rfl) dX6_begin_5 rfl (kV fun hv2  hw => ?_)
  refine r_aload_n C dX6_begin_8 0 rfl ?_
  refine r_iconst (v := 0) C dX6_begin_9 (by decide) ?_
  refine r_putI C fp_RX6_54_6 hw.1 rfl dX6_begin_10 ?_
  replace hw := hw.2
  refine r_toph fun hv3 ehv3 => ?_
  replace hw := hw hv3 ehv3
  refine r_aload_n C dX6_begin_13 0 rfl ?_
  refine r_iload_n C dX6_begin_14 2 rfl ?_
  refine r_putI C fp_RX6_57_6 hw.1 rfl dX6_begin_15 ?_
  replace hw := hw.2
  refine r_toph fun hv4 ehv4 => ?_
  replace hw := hw hv4 ehv4
  refine r_aload_n C dX6_begin_18 0 rfl ?_
  refine r_iconst (v := (-1)) C dX6_begin_19 (by decide) ?_
  refine r_putI C fp_RX6_60_6 hw.1 rfl dX6_begin_20 ?_
  replace hw := hw.2
  refine r_toph fun hv5 ehv5 => ?_
  replace hw := hw hv5 ehv5
  refine r_aload_n C dX6_begin_23 0 rfl ?_
  refine r_iload_n C dX6_begin_24 1 rfl ?_
  refine r_iconst (v := 0) C dX6_begin_25 (by decide) ?_
  refine r_iconst (v := 0) C dX6_begin_26 (by decide) ?_
  have hob := hw.1
  replace hw := hw.2
  refine r_callV C (As := [.int x1, .int 0, .int 0]) (rest := []) (c_X6_push G hv5 a0 x1 0 0 _ hw) yl_X6_push (gm5 (List.mem_of_getElem? (i := 128) rfl) rfl) (gm5 (List.mem_of_getElem? (i := 130) rfl) rfl) (ci := 6) rfl (by decide) (gsel (List.mem_of_getElem? (i := 26) rfl)) hob (by decide) rfl (Nat.le_of_ble_eq_true rfl) dX6_begin_27 rfl (kV fun hv6  hw => ?_)
  exact r_vret C hr dX6_begin_30 hw
theorem dX6_stateAt_0 : decode cX6_stateAt 0 = .ok (.aload_n 0, 1) := by decide +kernel
theorem dX6_stateAt_1 : decode cX6_stateAt 1 = .ok (.getfield 17, 3) := by decide +kernel
theorem dX6_stateAt_4 : decode cX6_stateAt 4 = .ok (.iload_n 1, 1) := by decide +kernel
theorem dX6_stateAt_5 : decode cX6_stateAt 5 = .ok (.laload, 1) := by decide +kernel
theorem dX6_stateAt_6 : decode cX6_stateAt 6 = .ok (.l2i, 1) := by decide +kernel
theorem dX6_stateAt_7 : decode cX6_stateAt 7 = .ok (.ldc 72, 2) := by decide +kernel
theorem dX6_stateAt_9 : decode cX6_stateAt 9 = .ok (.iand, 1) := by decide +kernel
theorem dX6_stateAt_10 : decode cX6_stateAt 10 = .ok (.ireturn, 1) := by decide +kernel
def wp_X6_stateAt (h : AH) (a0 : Nat) (x1 : Int32) (post : AH → Int32 → Prop) : Prop := (ob h a0 6) ∧ (∃ rv1, aP h a0 2 = some rv1 ∧ ((ob h rv1 14) ∧ ((vp_in x1 (aL h rv1)) ∧ (post h (((aJ h rv1 x1.toNatClampNeg).toInt32) &&& (262143 : Int32))))))
set_option maxRecDepth 100000 in
theorem c_X6_stateAt (G : GG) (h : AH) (a0 : Nat) (x1 : Int32) (post : AH → Int32 → Prop) (hw : wp_X6_stateAt h a0 x1 post) : MC G yX6_stateAt cX6_stateAt 2 (some .int) 0 0 h [.ref (G.1 + a0), .int x1] (pI post) := by
  refine MC.of (lv := [(0, .ref (G.1 + a0)), (1, .int x1)]) (by decide) (Nat.le_of_ble_eq_true rfl) rfl fun p l e R s m args below meth c C hr hnm => ?_
  unfold wp_X6_stateAt at hw
  refine r_aload_n C dX6_stateAt_0 0 rfl ?_
  have hob := hw.1
  obtain ⟨rv1, hp, hw⟩ := hw.2
  refine r_getP C fl_RX6_17_6 hob hp (fun _ _ _ => rfl) dX6_stateAt_1 ?_
  refine r_iload_n C dX6_stateAt_4 1 rfl ?_
  refine r_laload C hw.1 hw.2.1 dX6_stateAt_5 ?_
  replace hw := hw.2.2
  refine r_l2i C dX6_stateAt_6 ?_
  refine r_ldc (v := 262143) C (gm5 (List.mem_of_getElem? (i := 157) rfl) rfl) dX6_stateAt_7 ?_
  refine r_iand C dX6_stateAt_9 ?_
  exact r_iret C hr dX6_stateAt_10 hw
theorem dX6_actAt_0 : decode cX6_actAt 0 = .ok (.aload_n 0, 1) := by decide +kernel
theorem dX6_actAt_1 : decode cX6_actAt 1 = .ok (.getfield 17, 3) := by decide +kernel
theorem dX6_actAt_4 : decode cX6_actAt 4 = .ok (.iload_n 1, 1) := by decide +kernel
theorem dX6_actAt_5 : decode cX6_actAt 5 = .ok (.laload, 1) := by decide +kernel
theorem dX6_actAt_6 : decode cX6_actAt 6 = .ok (.bipush 18, 2) := by decide +kernel
theorem dX6_actAt_8 : decode cX6_actAt 8 = .ok (.lshr, 1) := by decide +kernel
theorem dX6_actAt_9 : decode cX6_actAt 9 = .ok (.l2i, 1) := by decide +kernel
theorem dX6_actAt_10 : decode cX6_actAt 10 = .ok (.bipush 63, 2) := by decide +kernel
theorem dX6_actAt_12 : decode cX6_actAt 12 = .ok (.iand, 1) := by decide +kernel
theorem dX6_actAt_13 : decode cX6_actAt 13 = .ok (.ireturn, 1) := by decide +kernel
def wp_X6_actAt (h : AH) (a0 : Nat) (x1 : Int32) (post : AH → Int32 → Prop) : Prop := (ob h a0 6) ∧ (∃ rv1, aP h a0 2 = some rv1 ∧ ((ob h rv1 14) ∧ ((vp_in x1 (aL h rv1)) ∧ (post h ((((aJ h rv1 x1.toNatClampNeg) >>> ((18 : Int32).toInt64 &&& 63)).toInt32) &&& (63 : Int32))))))
set_option maxRecDepth 100000 in
theorem c_X6_actAt (G : GG) (h : AH) (a0 : Nat) (x1 : Int32) (post : AH → Int32 → Prop) (hw : wp_X6_actAt h a0 x1 post) : MC G yX6_actAt cX6_actAt 2 (some .int) 0 0 h [.ref (G.1 + a0), .int x1] (pI post) := by
  refine MC.of (lv := [(0, .ref (G.1 + a0)), (1, .int x1)]) (by decide) (Nat.le_of_ble_eq_true rfl) rfl fun p l e R s m args below meth c C hr hnm => ?_
  unfold wp_X6_actAt at hw
  refine r_aload_n C dX6_actAt_0 0 rfl ?_
  have hob := hw.1
  obtain ⟨rv1, hp, hw⟩ := hw.2
  refine r_getP C fl_RX6_17_6 hob hp (fun _ _ _ => rfl) dX6_actAt_1 ?_
  refine r_iload_n C dX6_actAt_4 1 rfl ?_
  refine r_laload C hw.1 hw.2.1 dX6_actAt_5 ?_
  replace hw := hw.2.2
  refine r_bipush (v := 18) C dX6_actAt_6 (by decide) ?_
  refine r_lshr C dX6_actAt_8 ?_
  refine r_l2i C dX6_actAt_9 ?_
  refine r_bipush (v := 63) C dX6_actAt_10 (by decide) ?_
  refine r_iand C dX6_actAt_12 ?_
  exact r_iret C hr dX6_actAt_13 hw
theorem dX6_fromAt_0 : decode cX6_fromAt 0 = .ok (.aload_n 0, 1) := by decide +kernel
theorem dX6_fromAt_1 : decode cX6_fromAt 1 = .ok (.getfield 17, 3) := by decide +kernel
theorem dX6_fromAt_4 : decode cX6_fromAt 4 = .ok (.iload_n 1, 1) := by decide +kernel
theorem dX6_fromAt_5 : decode cX6_fromAt 5 = .ok (.laload, 1) := by decide +kernel
theorem dX6_fromAt_6 : decode cX6_fromAt 6 = .ok (.bipush 24, 2) := by decide +kernel
theorem dX6_fromAt_8 : decode cX6_fromAt 8 = .ok (.lshr, 1) := by decide +kernel
theorem dX6_fromAt_9 : decode cX6_fromAt 9 = .ok (.l2i, 1) := by decide +kernel
theorem dX6_fromAt_10 : decode cX6_fromAt 10 = .ok (.ireturn, 1) := by decide +kernel
def wp_X6_fromAt (h : AH) (a0 : Nat) (x1 : Int32) (post : AH → Int32 → Prop) : Prop := (ob h a0 6) ∧ (∃ rv1, aP h a0 2 = some rv1 ∧ ((ob h rv1 14) ∧ ((vp_in x1 (aL h rv1)) ∧ (post h (((aJ h rv1 x1.toNatClampNeg) >>> ((24 : Int32).toInt64 &&& 63)).toInt32)))))
set_option maxRecDepth 100000 in
theorem c_X6_fromAt (G : GG) (h : AH) (a0 : Nat) (x1 : Int32) (post : AH → Int32 → Prop) (hw : wp_X6_fromAt h a0 x1 post) : MC G yX6_fromAt cX6_fromAt 2 (some .int) 0 0 h [.ref (G.1 + a0), .int x1] (pI post) := by
  refine MC.of (lv := [(0, .ref (G.1 + a0)), (1, .int x1)]) (by decide) (Nat.le_of_ble_eq_true rfl) rfl fun p l e R s m args below meth c C hr hnm => ?_
  unfold wp_X6_fromAt at hw
  refine r_aload_n C dX6_fromAt_0 0 rfl ?_
  have hob := hw.1
  obtain ⟨rv1, hp, hw⟩ := hw.2
  refine r_getP C fl_RX6_17_6 hob hp (fun _ _ _ => rfl) dX6_fromAt_1 ?_
  refine r_iload_n C dX6_fromAt_4 1 rfl ?_
  refine r_laload C hw.1 hw.2.1 dX6_fromAt_5 ?_
  replace hw := hw.2.2
  refine r_bipush (v := 24) C dX6_fromAt_6 (by decide) ?_
  refine r_lshr C dX6_fromAt_8 ?_
  refine r_l2i C dX6_fromAt_9 ?_
  exact r_iret C hr dX6_fromAt_10 hw
theorem dX6_isNew_0 : decode cX6_isNew 0 = .ok (.iload_n 1, 1) := by decide +kernel
theorem dX6_isNew_1 : decode cX6_isNew 1 = .ok (.bipush 12, 2) := by decide +kernel
theorem dX6_isNew_3 : decode cX6_isNew 3 = .ok (.ishr, 1) := by decide +kernel
theorem dX6_isNew_4 : decode cX6_isNew 4 = .ok (.bipush 40, 2) := by decide +kernel
theorem dX6_isNew_6 : decode cX6_isNew 6 = .ok (.imul, 1) := by decide +kernel
theorem dX6_isNew_7 : decode cX6_isNew 7 = .ok (.iload_n 1, 1) := by decide +kernel
theorem dX6_isNew_8 : decode cX6_isNew 8 = .ok (.bipush 6, 2) := by decide +kernel
theorem dX6_isNew_10 : decode cX6_isNew 10 = .ok (.ishr, 1) := by decide +kernel
theorem dX6_isNew_11 : decode cX6_isNew 11 = .ok (.bipush 63, 2) := by decide +kernel
theorem dX6_isNew_13 : decode cX6_isNew 13 = .ok (.iand, 1) := by decide +kernel
theorem dX6_isNew_14 : decode cX6_isNew 14 = .ok (.iadd, 1) := by decide +kernel
theorem dX6_isNew_15 : decode cX6_isNew 15 = .ok (.istore_n 2, 1) := by decide +kernel
theorem dX6_isNew_16 : decode cX6_isNew 16 = .ok (.lconst 1, 1) := by decide +kernel
theorem dX6_isNew_17 : decode cX6_isNew 17 = .ok (.iload_n 1, 1) := by decide +kernel
theorem dX6_isNew_18 : decode cX6_isNew 18 = .ok (.bipush 63, 2) := by decide +kernel
theorem dX6_isNew_20 : decode cX6_isNew 20 = .ok (.iand, 1) := by decide +kernel
theorem dX6_isNew_21 : decode cX6_isNew 21 = .ok (.lshl, 1) := by decide +kernel
theorem dX6_isNew_22 : decode cX6_isNew 22 = .ok (.lstore_n 3, 1) := by decide +kernel
theorem dX6_isNew_23 : decode cX6_isNew 23 = .ok (.iload_n 2, 1) := by decide +kernel
theorem dX6_isNew_24 : decode cX6_isNew 24 = .ok (.aload_n 0, 1) := by decide +kernel
theorem dX6_isNew_25 : decode cX6_isNew 25 = .ok (.getfield 11, 3) := by decide +kernel
theorem dX6_isNew_28 : decode cX6_isNew 28 = .ok (.arraylength, 1) := by decide +kernel
theorem dX6_isNew_29 : decode cX6_isNew 29 = .ok (.if_icmp .ge 16, 3) := by decide +kernel
theorem dX6_isNew_32 : decode cX6_isNew 32 = .ok (.aload_n 0, 1) := by decide +kernel
theorem dX6_isNew_33 : decode cX6_isNew 33 = .ok (.getfield 11, 3) := by decide +kernel
theorem dX6_isNew_36 : decode cX6_isNew 36 = .ok (.iload_n 2, 1) := by decide +kernel
theorem dX6_isNew_37 : decode cX6_isNew 37 = .ok (.laload, 1) := by decide +kernel
theorem dX6_isNew_38 : decode cX6_isNew 38 = .ok (.lload_n 3, 1) := by decide +kernel
theorem dX6_isNew_39 : decode cX6_isNew 39 = .ok (.land, 1) := by decide +kernel
theorem dX6_isNew_40 : decode cX6_isNew 40 = .ok (.lconst 0, 1) := by decide +kernel
theorem dX6_isNew_41 : decode cX6_isNew 41 = .ok (.lcmp, 1) := by decide +kernel
theorem dX6_isNew_42 : decode cX6_isNew 42 = .ok (.ifCond .eq 5, 3) := by decide +kernel
theorem dX6_isNew_45 : decode cX6_isNew 45 = .ok (.iconst 0, 1) := by decide +kernel
theorem dX6_isNew_46 : decode cX6_isNew 46 = .ok (.ireturn, 1) := by decide +kernel
theorem dX6_isNew_47 : decode cX6_isNew 47 = .ok (.aload_n 0, 1) := by decide +kernel
theorem dX6_isNew_48 : decode cX6_isNew 48 = .ok (.getfield 11, 3) := by decide +kernel
theorem dX6_isNew_51 : decode cX6_isNew 51 = .ok (.iload_n 2, 1) := by decide +kernel
theorem dX6_isNew_52 : decode cX6_isNew 52 = .ok (.dup2, 1) := by decide +kernel
theorem dX6_isNew_53 : decode cX6_isNew 53 = .ok (.laload, 1) := by decide +kernel
theorem dX6_isNew_54 : decode cX6_isNew 54 = .ok (.lload_n 3, 1) := by decide +kernel
theorem dX6_isNew_55 : decode cX6_isNew 55 = .ok (.lor, 1) := by decide +kernel
theorem dX6_isNew_56 : decode cX6_isNew 56 = .ok (.lastore, 1) := by decide +kernel
theorem dX6_isNew_57 : decode cX6_isNew 57 = .ok (.iconst 1, 1) := by decide +kernel
theorem dX6_isNew_58 : decode cX6_isNew 58 = .ok (.ireturn, 1) := by decide +kernel
def wp_X6_isNew (h : AH) (a0 : Nat) (x1 : Int32) (post : AH → Int32 → Prop) : Prop := ∀ iv1 : Int32, iv1 = ((x1 >>> ((12 : Int32) &&& 31)) * (40 : Int32)) + ((x1 >>> ((6 : Int32) &&& 31)) &&& (63 : Int32)) → (∀ jv2 : Int64, jv2 = (1 : Int64) <<< ((x1 &&& (63 : Int32)).toInt64 &&& 63) → ((ob h a0 6) ∧ (∃ rv3, aP h a0 1 = some rv3 ∧ (((aK h rv3 = 12 ∨ aK h rv3 = 13 ∨ aK h rv3 = 14) ∧ rv3 < aN h) ∧ (((nI (aL h rv3)) ≤ iv1 → (((0 : Int32) = 0 ∨ (0 : Int32) = 1) ∧ post h 0)) ∧ (¬ (nI (aL h rv3)) ≤ iv1 → ((ob h a0 6) ∧ (∃ rv4, aP h a0 1 = some rv4 ∧ ((ob h rv4 14) ∧ ((vp_in iv1 (aL h rv4)) ∧ (((lg_cmp ((aJ h rv4 iv1.toNatClampNeg) &&& jv2) 0) = 0 → ((ob h a0 6) ∧ (∃ rv5, aP h a0 1 = some rv5 ∧ ((ob h rv5 14) ∧ ((vp_in iv1 (aL h rv5)) ∧ ((ob h rv5 14) ∧ ((vp_in iv1 (aL h rv5)) ∧ (∀ hv6 : AH, hv6 = hJ h rv5 iv1.toNatClampNeg ((aJ h rv5 iv1.toNatClampNeg) ||| jv2) → (((1 : Int32) = 0 ∨ (1 : Int32) = 1) ∧ post hv6 1))))))))) ∧ (¬ (lg_cmp ((aJ h rv4 iv1.toNatClampNeg) &&& jv2) 0) = 0 → (((0 : Int32) = 0 ∨ (0 : Int32) = 1) ∧ post h 0)))))))))))))
set_option maxRecDepth 100000 in
theorem c_X6_isNew (G : GG) (h : AH) (a0 : Nat) (x1 : Int32) (post : AH → Int32 → Prop) (hw : wp_X6_isNew h a0 x1 post) : MC G yX6_isNew cX6_isNew 5 (some .boolean) 0 0 h [.ref (G.1 + a0), .int x1] (pI post) := by
  refine MC.of (lv := [(0, .ref (G.1 + a0)), (1, .int x1)]) (by decide) (Nat.le_of_ble_eq_true rfl) rfl fun p l e R s m args below meth c C hr hnm => ?_
  unfold wp_X6_isNew at hw
  refine r_iload_n C dX6_isNew_0 1 rfl ?_
  refine r_bipush (v := 12) C dX6_isNew_1 (by decide) ?_
  refine r_ishr C dX6_isNew_3 ?_
  refine r_bipush (v := 40) C dX6_isNew_4 (by decide) ?_
  refine r_imul C dX6_isNew_6 ?_
  refine r_iload_n C dX6_isNew_7 1 rfl ?_
  refine r_bipush (v := 6) C dX6_isNew_8 (by decide) ?_
  refine r_ishr C dX6_isNew_10 ?_
  refine r_bipush (v := 63) C dX6_isNew_11 (by decide) ?_
  refine r_iand C dX6_isNew_13 ?_
  refine r_iadd C dX6_isNew_14 ?_
  refine r_topi fun iv1 eiv1 => ?_
  replace hw := hw iv1 eiv1
  refine r_istore_n C dX6_isNew_15 [(2, .int iv1), (0, .ref (G.1 + a0)), (1, .int x1)] (by decide) rfl ?_
  refine r_lconst (v := 1) C dX6_isNew_16 (by decide) ?_
  refine r_iload_n C dX6_isNew_17 2 rfl ?_
  refine r_bipush (v := 63) C dX6_isNew_18 (by decide) ?_
  refine r_iand C dX6_isNew_20 ?_
  refine r_lshl C dX6_isNew_21 ?_
  refine r_topl fun jv2 ejv2 => ?_
  replace hw := hw jv2 ejv2
  refine r_lstore_n C dX6_isNew_22 [(3, .long jv2), (2, .int iv1), (0, .ref (G.1 + a0)), (1, .int x1)] (by decide) rfl ?_
  refine r_iload_n C dX6_isNew_23 1 rfl ?_
  refine r_aload_n C dX6_isNew_24 2 rfl ?_
  have hob := hw.1
  obtain ⟨rv3, hp, hw⟩ := hw.2
  refine r_getP C fl_RX6_11_6 hob hp (fun _ _ _ => rfl) dX6_isNew_25 ?_
  refine r_alen C hw.1 dX6_isNew_28 ?_
  replace hw := hw.2
  refine r_icmp_ge C dX6_isNew_29 45 (by decide) (fun hc => ?_) (fun hc => ?_)
  · replace hw := hw.1 hc
    refine r_iconst (v := 0) C dX6_isNew_45 (by decide) ?_
    exact r_zret C hr dX6_isNew_46 hw.1 hw.2
  · replace hw := hw.2 hc
    refine r_aload_n C dX6_isNew_32 2 rfl ?_
    have hob := hw.1
    obtain ⟨rv4, hp, hw⟩ := hw.2
    refine r_getP C fl_RX6_11_6 hob hp (fun _ _ _ => rfl) dX6_isNew_33 ?_
    refine r_iload_n C dX6_isNew_36 1 rfl ?_
    refine r_laload C hw.1 hw.2.1 dX6_isNew_37 ?_
    replace hw := hw.2.2
    refine r_lload_n C dX6_isNew_38 0 rfl ?_
    refine r_land C dX6_isNew_39 ?_
    refine r_lconst (v := 0) C dX6_isNew_40 (by decide) ?_
    refine r_lcmp C dX6_isNew_41 ?_
    refine r_if_eq C dX6_isNew_42 47 (by decide) (fun hc => ?_) (fun hc => ?_)
    · replace hw := hw.1 hc
      refine r_aload_n C dX6_isNew_47 2 rfl ?_
      have hob := hw.1
      obtain ⟨rv5, hp, hw⟩ := hw.2
      refine r_getP C fl_RX6_11_6 hob hp (fun _ _ _ => rfl) dX6_isNew_48 ?_
      refine r_iload_n C dX6_isNew_51 1 rfl ?_
      refine r_dup2 C dX6_isNew_52 rfl rfl ?_
      refine r_laload C hw.1 hw.2.1 dX6_isNew_53 ?_
      replace hw := hw.2.2
      refine r_lload_n C dX6_isNew_54 0 rfl ?_
      refine r_lor C dX6_isNew_55 ?_
      refine r_lastore C hw.1 hw.2.1 dX6_isNew_56 ?_
      replace hw := hw.2.2
      refine r_toph fun hv6 ehv6 => ?_
      replace hw := hw hv6 ehv6
      refine r_iconst (v := 1) C dX6_isNew_57 (by decide) ?_
      exact r_zret C hr dX6_isNew_58 hw.1 hw.2
    · replace hw := hw.2 hc
      refine r_iconst (v := 0) C dX6_isNew_45 (by decide) ?_
      exact r_zret C hr dX6_isNew_46 hw.1 hw.2
theorem dX6_trace_0 : decode cX6_trace 0 = .ok (.iconst 0, 1) := by decide +kernel
theorem dX6_trace_1 : decode cX6_trace 1 = .ok (.istore_n 2, 1) := by decide +kernel
theorem dX6_trace_2 : decode cX6_trace 2 = .ok (.iload_n 1, 1) := by decide +kernel
theorem dX6_trace_3 : decode cX6_trace 3 = .ok (.istore_n 3, 1) := by decide +kernel
theorem dX6_trace_4 : decode cX6_trace 4 = .ok (.iload_n 3, 1) := by decide +kernel
theorem dX6_trace_5 : decode cX6_trace 5 = .ok (.ifCond .le 21, 3) := by decide +kernel
theorem dX6_trace_8 : decode cX6_trace 8 = .ok (.iload_n 2, 1) := by decide +kernel
theorem dX6_trace_9 : decode cX6_trace 9 = .ok (.ldc 67, 2) := by decide +kernel
theorem dX6_trace_11 : decode cX6_trace 11 = .ok (.if_icmp .ge 15, 3) := by decide +kernel
theorem dX6_trace_14 : decode cX6_trace 14 = .ok (.iinc 2 1, 3) := by decide +kernel
theorem dX6_trace_17 : decode cX6_trace 17 = .ok (.aload_n 0, 1) := by decide +kernel
theorem dX6_trace_18 : decode cX6_trace 18 = .ok (.iload_n 3, 1) := by decide +kernel
theorem dX6_trace_19 : decode cX6_trace 19 = .ok (.invokevirtual 73, 3) := by decide +kernel
theorem dX6_trace_22 : decode cX6_trace 22 = .ok (.istore_n 3, 1) := by decide +kernel
theorem dX6_trace_23 : decode cX6_trace 23 = .ok (.goto (-19), 3) := by decide +kernel
theorem dX6_trace_26 : decode cX6_trace 26 = .ok (.iload_n 2, 1) := by decide +kernel
theorem dX6_trace_27 : decode cX6_trace 27 = .ok (.aload_n 0, 1) := by decide +kernel
theorem dX6_trace_28 : decode cX6_trace 28 = .ok (.getfield 24, 3) := by decide +kernel
theorem dX6_trace_31 : decode cX6_trace 31 = .ok (.arraylength, 1) := by decide +kernel
theorem dX6_trace_32 : decode cX6_trace 32 = .ok (.if_icmp .le 12, 3) := by decide +kernel
theorem dX6_trace_35 : decode cX6_trace 35 = .ok (.aload_n 0, 1) := by decide +kernel
theorem dX6_trace_36 : decode cX6_trace 36 = .ok (.iconst 2, 1) := by decide +kernel
theorem dX6_trace_37 : decode cX6_trace 37 = .ok (.iload_n 2, 1) := by decide +kernel
theorem dX6_trace_38 : decode cX6_trace 38 = .ok (.imul, 1) := by decide +kernel
theorem dX6_trace_39 : decode cX6_trace 39 = .ok (.newarray .int, 2) := by decide +kernel
theorem dX6_trace_41 : decode cX6_trace 41 = .ok (.putfield 24, 3) := by decide +kernel
theorem dX6_trace_44 : decode cX6_trace 44 = .ok (.aload_n 0, 1) := by decide +kernel
theorem dX6_trace_45 : decode cX6_trace 45 = .ok (.iload_n 2, 1) := by decide +kernel
theorem dX6_trace_46 : decode cX6_trace 46 = .ok (.putfield 77, 3) := by decide +kernel
theorem dX6_trace_49 : decode cX6_trace 49 = .ok (.iload_n 1, 1) := by decide +kernel
theorem dX6_trace_50 : decode cX6_trace 50 = .ok (.istore_n 3, 1) := by decide +kernel
theorem dX6_trace_51 : decode cX6_trace 51 = .ok (.iload_n 2, 1) := by decide +kernel
theorem dX6_trace_52 : decode cX6_trace 52 = .ok (.iconst 1, 1) := by decide +kernel
theorem dX6_trace_53 : decode cX6_trace 53 = .ok (.isub, 1) := by decide +kernel
theorem dX6_trace_54 : decode cX6_trace 54 = .ok (.istore 4, 2) := by decide +kernel
theorem dX6_trace_56 : decode cX6_trace 56 = .ok (.iload 4, 2) := by decide +kernel
theorem dX6_trace_58 : decode cX6_trace 58 = .ok (.ifCond .lt 41, 3) := by decide +kernel
theorem dX6_trace_61 : decode cX6_trace 61 = .ok (.aload_n 0, 1) := by decide +kernel
theorem dX6_trace_62 : decode cX6_trace 62 = .ok (.iload_n 3, 1) := by decide +kernel
theorem dX6_trace_63 : decode cX6_trace 63 = .ok (.invokevirtual 80, 3) := by decide +kernel
theorem dX6_trace_66 : decode cX6_trace 66 = .ok (.istore 5, 2) := by decide +kernel
theorem dX6_trace_68 : decode cX6_trace 68 = .ok (.aload_n 0, 1) := by decide +kernel
theorem dX6_trace_69 : decode cX6_trace 69 = .ok (.getfield 24, 3) := by decide +kernel
theorem dX6_trace_72 : decode cX6_trace 72 = .ok (.iload 4, 2) := by decide +kernel
theorem dX6_trace_74 : decode cX6_trace 74 = .ok (.iload 5, 2) := by decide +kernel
theorem dX6_trace_76 : decode cX6_trace 76 = .ok (.iconst 5, 1) := by decide +kernel
theorem dX6_trace_77 : decode cX6_trace 77 = .ok (.idiv, 1) := by decide +kernel
theorem dX6_trace_78 : decode cX6_trace 78 = .ok (.bipush 10, 2) := by decide +kernel
theorem dX6_trace_80 : decode cX6_trace 80 = .ok (.imul, 1) := by decide +kernel
theorem dX6_trace_81 : decode cX6_trace 81 = .ok (.iload 5, 2) := by decide +kernel
theorem dX6_trace_83 : decode cX6_trace 83 = .ok (.iconst 5, 1) := by decide +kernel
theorem dX6_trace_84 : decode cX6_trace 84 = .ok (.irem, 1) := by decide +kernel
theorem dX6_trace_85 : decode cX6_trace 85 = .ok (.iadd, 1) := by decide +kernel
theorem dX6_trace_86 : decode cX6_trace 86 = .ok (.iastore, 1) := by decide +kernel
theorem dX6_trace_87 : decode cX6_trace 87 = .ok (.aload_n 0, 1) := by decide +kernel
theorem dX6_trace_88 : decode cX6_trace 88 = .ok (.iload_n 3, 1) := by decide +kernel
theorem dX6_trace_89 : decode cX6_trace 89 = .ok (.invokevirtual 73, 3) := by decide +kernel
theorem dX6_trace_92 : decode cX6_trace 92 = .ok (.istore_n 3, 1) := by decide +kernel
theorem dX6_trace_93 : decode cX6_trace 93 = .ok (.iinc 4 (-1), 3) := by decide +kernel
theorem dX6_trace_96 : decode cX6_trace 96 = .ok (.goto (-40), 3) := by decide +kernel
theorem dX6_trace_99 : decode cX6_trace 99 = .ok (.iload_n 2, 1) := by decide +kernel
theorem dX6_trace_100 : decode cX6_trace 100 = .ok (.ireturn, 1) := by decide +kernel
def wb_X6_trace_56 (K56 : AH → Nat → Int32 → Int32 → Int32 → Prop) (h : AH) (al0 : Nat) (xl2 : Int32) (xl3 : Int32) (xl4 : Int32)  (post : AH → Int32 → Prop) : Prop := (xl4 < 0 → (post h xl2)) ∧ (¬ xl4 < 0 → ((ob h al0 6) ∧ wp_X6_actAt h al0 xl3 (fun hv1 iv2 => (ob hv1 al0 6) ∧ (∃ rv3, aP hv1 al0 8 = some rv3 ∧ ((ob hv1 rv3 13) ∧ ((vp_in xl4 (aL hv1 rv3)) ∧ (∀ hv4 : AH, hv4 = hI hv1 rv3 xl4.toNatClampNeg (((iv2 / 5) * (10 : Int32)) + (iv2 - iv2 / 5 * 5)) → ((ob hv4 al0 6) ∧ wp_X6_fromAt hv4 al0 xl3 (fun hv5 iv6 => ∀ iv7 : Int32, iv7 = xl4 + (-1) → (K56 hv5 al0 xl2 iv6 iv7))))))))))
set_option maxRecDepth 100000 in
theorem tb_X6_trace_56 {G : GG} {p : Program} {l : Launch} {e : Env} {R : Room} {s : State} {m : MethodId} {args : Array Value} {below : List Frame} {meth : Method} {c : Code} {n0 s0 : Nat} {post : AH → Int32 → Prop} (C : Cx G p R s m args meth c 6 cX6_trace RX6 n0 s0 1 21) (hr : meth.sig.returnType = (some .int)) {K56 : AH → Nat → Int32 → Int32 → Int32 → Prop} (hK56 : ∀ (h : AH) (al0 : Nat) (xl2 : Int32) (xl3 : Int32) (xl4 : Int32), K56 h al0 xl2 xl3 xl4 → AW G p l e R s m args below meth c 6 (QM G (pI post) args s below n0 s0) 56 [(0, .ref (G.1 + al0)), (2, .int xl2), (3, .int xl3), (4, .int xl4)] [] h) {h : AH} {al0 : Nat} {xl2 : Int32} {xl3 : Int32} {xl4 : Int32}  (hw : wb_X6_trace_56 K56 h al0 xl2 xl3 xl4 post) : AW G p l e R s m args below meth c 6 (QM G (pI post) args s below n0 s0) 56 [(0, .ref (G.1 + al0)), (2, .int xl2), (3, .int xl3), (4, .int xl4)] [] h := by
  unfold wb_X6_trace_56 at hw
  refine r_iload C dX6_trace_56 3 rfl ?_
  refine r_if_lt C dX6_trace_58 99 (by decide) (fun hc => ?_) (fun hc => ?_)
  · replace hw := hw.1 hc
    refine r_iload_n C dX6_trace_99 1 rfl ?_
    exact r_iret C hr dX6_trace_100 hw
  · replace hw := hw.2 hc
    refine r_aload_n C dX6_trace_61 0 rfl ?_
    refine r_iload_n C dX6_trace_62 2 rfl ?_
    have hob := hw.1
    replace hw := hw.2
    refine r_callV C (As := [.int xl3]) (rest := []) (c_X6_actAt G h al0 xl3 _ hw) yl_X6_actAt (gm5 (List.mem_of_getElem? (i := 178) rfl) rfl) (gm5 (List.mem_of_getElem? (i := 180) rfl) rfl) (ci := 6) rfl (by decide) (gsel (List.mem_of_getElem? (i := 32) rfl)) hob (by decide) rfl (Nat.le_of_ble_eq_true rfl) dX6_trace_63 rfl (kI fun hv1 iv2 hw => ?_)
    refine r_istore C dX6_trace_66 [(5, .int iv2), (0, .ref (G.1 + al0)), (2, .int xl2), (3, .int xl3), (4, .int xl4)] (by decide) rfl ?_
    refine r_aload_n C dX6_trace_68 1 rfl ?_
    have hob := hw.1
    obtain ⟨rv3, hp, hw⟩ := hw.2
    refine r_getP C fl_RX6_24_6 hob hp (fun _ _ _ => rfl) dX6_trace_69 ?_
    refine r_iload C dX6_trace_72 4 rfl ?_
    refine r_iload C dX6_trace_74 0 rfl ?_
    refine r_iconst (v := 5) C dX6_trace_76 (by decide) ?_
    refine r_idiv C dX6_trace_77 (by decide) ?_
    refine r_bipush (v := 10) C dX6_trace_78 (by decide) ?_
    refine r_imul C dX6_trace_80 ?_
    refine r_iload C dX6_trace_81 0 rfl ?_
    refine r_iconst (v := 5) C dX6_trace_83 (by decide) ?_
    refine r_irem C dX6_trace_84 (by decide) ?_
    refine r_iadd C dX6_trace_85 ?_
    refine r_iastore C hw.1 hw.2.1 dX6_trace_86 ?_
    replace hw := hw.2.2
    refine r_toph fun hv4 ehv4 => ?_
    replace hw := hw hv4 ehv4
    refine r_aload_n C dX6_trace_87 1 rfl ?_
    refine r_iload_n C dX6_trace_88 3 rfl ?_
    have hob := hw.1
    replace hw := hw.2
    refine r_callV C (As := [.int xl3]) (rest := []) (c_X6_fromAt G hv4 al0 xl3 _ hw) yl_X6_fromAt (gm5 (List.mem_of_getElem? (i := 174) rfl) rfl) (gm5 (List.mem_of_getElem? (i := 176) rfl) rfl) (ci := 6) rfl (by decide) (gsel (List.mem_of_getElem? (i := 31) rfl)) hob (by decide) rfl (Nat.le_of_ble_eq_true rfl) dX6_trace_89 rfl (kI fun hv5 iv6 hw => ?_)
    refine r_istore_n C dX6_trace_92 [(3, .int iv6), (5, .int iv2), (0, .ref (G.1 + al0)), (2, .int xl2), (4, .int xl4)] (by decide) rfl ?_
    obtain ⟨iv7, eiv7⟩ : ∃ q : Int32, q = xl4 + (-1) := ⟨_, rfl⟩
    replace hw := hw iv7 eiv7
    refine r_iinc C dX6_trace_93 4 rfl (by rw [eiv7]; rfl) [(4, .int iv7), (3, .int iv6), (5, .int iv2), (0, .ref (G.1 + al0)), (2, .int xl2)] (by decide) rfl ?_
    refine r_goto C dX6_trace_96 56 (by decide) ?_
    refine r_sub [3, 4, 1, 0] rfl ?_
    exact hK56 _ _ _ _ _ hw
def wl_X6_trace_56  (post : AH → Int32 → Prop) : Nat → AH → Nat → Int32 → Int32 → Int32 → Prop
  | 0 => fun _ _ _ _ _ => False
  | n + 1 => fun h al0 xl2 xl3 xl4 => wb_X6_trace_56  (wl_X6_trace_56  post n) h al0 xl2 xl3 xl4 post
theorem tl_X6_trace_56 {G : GG} {p : Program} {l : Launch} {e : Env} {R : Room} {s : State} {m : MethodId} {args : Array Value} {below : List Frame} {meth : Method} {c : Code} {n0 s0 : Nat} {post : AH → Int32 → Prop} (C : Cx G p R s m args meth c 6 cX6_trace RX6 n0 s0 1 21) (hr : meth.sig.returnType = (some .int))   : ∀ (n : Nat) (h : AH) (al0 : Nat) (xl2 : Int32) (xl3 : Int32) (xl4 : Int32), wl_X6_trace_56  post n h al0 xl2 xl3 xl4 → AW G p l e R s m args below meth c 6 (QM G (pI post) args s below n0 s0) 56 [(0, .ref (G.1 + al0)), (2, .int xl2), (3, .int xl3), (4, .int xl4)] [] h := by
  intro n
  induction n with
  | zero => intro h al0 xl2 xl3 xl4 hw; exact hw.elim
  | succ n ih => intro h al0 xl2 xl3 xl4 hw; exact tb_X6_trace_56 C hr  ih hw
def wb_X6_trace_44  (h : AH) (al0 : Nat) (xl1 : Int32) (xl2 : Int32)  (post : AH → Int32 → Prop) : Prop := (ob h al0 6) ∧ (∀ hv1 : AH, hv1 = hI h al0 9 xl2 → (∀ iv2 : Int32, iv2 = xl2 - (1 : Int32) → (∃ n, wl_X6_trace_56  post n hv1 al0 xl2 xl1 iv2)))
set_option maxRecDepth 100000 in
theorem tb_X6_trace_44 {G : GG} {p : Program} {l : Launch} {e : Env} {R : Room} {s : State} {m : MethodId} {args : Array Value} {below : List Frame} {meth : Method} {c : Code} {n0 s0 : Nat} {post : AH → Int32 → Prop} (C : Cx G p R s m args meth c 6 cX6_trace RX6 n0 s0 1 21) (hr : meth.sig.returnType = (some .int))   {h : AH} {al0 : Nat} {xl1 : Int32} {xl2 : Int32}  (hw : wb_X6_trace_44  h al0 xl1 xl2 post) : AW G p l e R s m args below meth c 6 (QM G (pI post) args s below n0 s0) 44 [(0, .ref (G.1 + al0)), (1, .int xl1), (2, .int xl2)] [] h := by
  unfold wb_X6_trace_44 at hw
  refine r_aload_n C dX6_trace_44 0 rfl ?_
  refine r_iload_n C dX6_trace_45 2 rfl ?_
  refine r_putI C fp_RX6_77_6 hw.1 rfl dX6_trace_46 ?_
  replace hw := hw.2
  refine r_toph fun hv1 ehv1 => ?_
  replace hw := hw hv1 ehv1
  refine r_iload_n C dX6_trace_49 1 rfl ?_
  refine r_istore_n C dX6_trace_50 [(3, .int xl1), (0, .ref (G.1 + al0)), (1, .int xl1), (2, .int xl2)] (by decide) rfl ?_
  refine r_iload_n C dX6_trace_51 3 rfl ?_
  refine r_iconst (v := 1) C dX6_trace_52 (by decide) ?_
  refine r_isub C dX6_trace_53 ?_
  refine r_topi fun iv2 eiv2 => ?_
  replace hw := hw iv2 eiv2
  refine r_istore C dX6_trace_54 [(4, .int iv2), (3, .int xl1), (0, .ref (G.1 + al0)), (1, .int xl1), (2, .int xl2)] (by decide) rfl ?_
  refine r_sub [2, 4, 1, 0] rfl ?_
  obtain ⟨n, hw⟩ := hw
  exact tl_X6_trace_56 C hr  n _ _ _ _ _ hw
def wb_X6_trace_26  (h : AH) (al0 : Nat) (xl1 : Int32) (xl2 : Int32)  (post : AH → Int32 → Prop) : Prop := (ob h al0 6) ∧ (∃ rv1, aP h al0 8 = some rv1 ∧ (((aK h rv1 = 12 ∨ aK h rv1 = 13 ∨ aK h rv1 = 14) ∧ rv1 < aN h) ∧ ((xl2 ≤ (nI (aL h rv1)) → (wb_X6_trace_44  h al0 xl1 xl2 post)) ∧ (¬ xl2 ≤ (nI (aL h rv1)) → ((¬ ((2 : Int32) * xl2) < 0) ∧ ((aN h < 601024 ∧ aS h + ((2 : Int32) * xl2).toNatClampNeg ≤ 7293034) ∧ (∀ (hv2 : AH) (rv3 : Nat), hv2 = hNew h 13 ((2 : Int32) * xl2).toNatClampNeg → rv3 = aN h → ((ob hv2 al0 6) ∧ (∀ hv4 : AH, hv4 = hP hv2 al0 8 rv3 → (wb_X6_trace_44  hv4 al0 xl1 xl2 post))))))))))
set_option maxRecDepth 100000 in
theorem tb_X6_trace_26 {G : GG} {p : Program} {l : Launch} {e : Env} {R : Room} {s : State} {m : MethodId} {args : Array Value} {below : List Frame} {meth : Method} {c : Code} {n0 s0 : Nat} {post : AH → Int32 → Prop} (C : Cx G p R s m args meth c 6 cX6_trace RX6 n0 s0 1 21) (hr : meth.sig.returnType = (some .int))   {h : AH} {al0 : Nat} {xl1 : Int32} {xl2 : Int32}  (hw : wb_X6_trace_26  h al0 xl1 xl2 post) : AW G p l e R s m args below meth c 6 (QM G (pI post) args s below n0 s0) 26 [(0, .ref (G.1 + al0)), (1, .int xl1), (2, .int xl2)] [] h := by
  unfold wb_X6_trace_26 at hw
  refine r_iload_n C dX6_trace_26 2 rfl ?_
  refine r_aload_n C dX6_trace_27 0 rfl ?_
  have hob := hw.1
  obtain ⟨rv1, hp, hw⟩ := hw.2
  refine r_getP C fl_RX6_24_6 hob hp (fun _ _ _ => rfl) dX6_trace_28 ?_
  refine r_alen C hw.1 dX6_trace_31 ?_
  replace hw := hw.2
  refine r_icmp_le C dX6_trace_32 44 (by decide) (fun hc => ?_) (fun hc => ?_)
  · replace hw := hw.1 hc
    refine r_sub [0, 1, 2] rfl ?_
    exact tb_X6_trace_44 C hr  hw
  · replace hw := hw.2 hc
    refine r_aload_n C dX6_trace_35 0 rfl ?_
    refine r_iconst (v := 2) C dX6_trace_36 (by decide) ?_
    refine r_iload_n C dX6_trace_37 2 rfl ?_
    refine r_imul C dX6_trace_38 ?_
    refine r_newI C hw.1 hw.2.1 dX6_trace_39 (gm1 (List.mem_of_getElem? (i := 133) rfl) rfl) ?_
    replace hw := hw.2.2
    refine r_topn fun hv2 rv3 ehv2 erv3 => ?_
    replace hw := hw hv2 rv3 ehv2 erv3
    refine r_putP C fp_RX6_24_6 hw.1 (fun _ _ _ => rfl) dX6_trace_41 ?_
    replace hw := hw.2
    refine r_toph fun hv4 ehv4 => ?_
    replace hw := hw hv4 ehv4
    refine r_sub [0, 1, 2] rfl ?_
    exact tb_X6_trace_44 C hr  hw
def wb_X6_trace_4 (K4 : AH → Nat → Int32 → Int32 → Int32 → Prop) (h : AH) (al0 : Nat) (xl1 : Int32) (xl2 : Int32) (xl3 : Int32)  (post : AH → Int32 → Prop) : Prop := (xl3 ≤ 0 → (wb_X6_trace_26  h al0 xl1 xl2 post)) ∧ (¬ xl3 ≤ 0 → ((64000 ≤ xl2 → (wb_X6_trace_26  h al0 xl1 xl2 post)) ∧ (¬ 64000 ≤ xl2 → (∀ iv1 : Int32, iv1 = xl2 + 1 → ((ob h al0 6) ∧ wp_X6_fromAt h al0 xl3 (fun hv2 iv3 => K4 hv2 al0 xl1 iv1 iv3))))))
set_option maxRecDepth 100000 in
theorem tb_X6_trace_4 {G : GG} {p : Program} {l : Launch} {e : Env} {R : Room} {s : State} {m : MethodId} {args : Array Value} {below : List Frame} {meth : Method} {c : Code} {n0 s0 : Nat} {post : AH → Int32 → Prop} (C : Cx G p R s m args meth c 6 cX6_trace RX6 n0 s0 1 21) (hr : meth.sig.returnType = (some .int)) {K4 : AH → Nat → Int32 → Int32 → Int32 → Prop} (hK4 : ∀ (h : AH) (al0 : Nat) (xl1 : Int32) (xl2 : Int32) (xl3 : Int32), K4 h al0 xl1 xl2 xl3 → AW G p l e R s m args below meth c 6 (QM G (pI post) args s below n0 s0) 4 [(0, .ref (G.1 + al0)), (1, .int xl1), (2, .int xl2), (3, .int xl3)] [] h) {h : AH} {al0 : Nat} {xl1 : Int32} {xl2 : Int32} {xl3 : Int32}  (hw : wb_X6_trace_4 K4 h al0 xl1 xl2 xl3 post) : AW G p l e R s m args below meth c 6 (QM G (pI post) args s below n0 s0) 4 [(0, .ref (G.1 + al0)), (1, .int xl1), (2, .int xl2), (3, .int xl3)] [] h := by
  unfold wb_X6_trace_4 at hw
  refine r_iload_n C dX6_trace_4 3 rfl ?_
  refine r_if_le C dX6_trace_5 26 (by decide) (fun hc => ?_) (fun hc => ?_)
  · replace hw := hw.1 hc
    refine r_sub [0, 1, 2] rfl ?_
    exact tb_X6_trace_26 C hr  hw
  · replace hw := hw.2 hc
    refine r_iload_n C dX6_trace_8 2 rfl ?_
    refine r_ldc (v := 64000) C (gm5 (List.mem_of_getElem? (i := 132) rfl) rfl) dX6_trace_9 ?_
    refine r_icmp_ge C dX6_trace_11 26 (by decide) (fun hc => ?_) (fun hc => ?_)
    · replace hw := hw.1 hc
      refine r_sub [0, 1, 2] rfl ?_
      exact tb_X6_trace_26 C hr  hw
    · replace hw := hw.2 hc
      obtain ⟨iv1, eiv1⟩ : ∃ q : Int32, q = xl2 + 1 := ⟨_, rfl⟩
      replace hw := hw iv1 eiv1
      refine r_iinc C dX6_trace_14 2 rfl (by rw [eiv1]; rfl) [(2, .int iv1), (0, .ref (G.1 + al0)), (1, .int xl1), (3, .int xl3)] (by decide) rfl ?_
      refine r_aload_n C dX6_trace_17 1 rfl ?_
      refine r_iload_n C dX6_trace_18 3 rfl ?_
      have hob := hw.1
      replace hw := hw.2
      refine r_callV C (As := [.int xl3]) (rest := []) (c_X6_fromAt G h al0 xl3 _ hw) yl_X6_fromAt (gm5 (List.mem_of_getElem? (i := 174) rfl) rfl) (gm5 (List.mem_of_getElem? (i := 176) rfl) rfl) (ci := 6) rfl (by decide) (gsel (List.mem_of_getElem? (i := 31) rfl)) hob (by decide) rfl (Nat.le_of_ble_eq_true rfl) dX6_trace_19 rfl (kI fun hv2 iv3 hw => ?_)
      refine r_istore_n C dX6_trace_22 [(3, .int iv3), (2, .int iv1), (0, .ref (G.1 + al0)), (1, .int xl1)] (by decide) rfl ?_
      refine r_goto C dX6_trace_23 4 (by decide) ?_
      refine r_sub [2, 3, 1, 0] rfl ?_
      exact hK4 _ _ _ _ _ hw
def wl_X6_trace_4  (post : AH → Int32 → Prop) : Nat → AH → Nat → Int32 → Int32 → Int32 → Prop
  | 0 => fun _ _ _ _ _ => False
  | n + 1 => fun h al0 xl1 xl2 xl3 => wb_X6_trace_4  (wl_X6_trace_4  post n) h al0 xl1 xl2 xl3 post
theorem tl_X6_trace_4 {G : GG} {p : Program} {l : Launch} {e : Env} {R : Room} {s : State} {m : MethodId} {args : Array Value} {below : List Frame} {meth : Method} {c : Code} {n0 s0 : Nat} {post : AH → Int32 → Prop} (C : Cx G p R s m args meth c 6 cX6_trace RX6 n0 s0 1 21) (hr : meth.sig.returnType = (some .int))   : ∀ (n : Nat) (h : AH) (al0 : Nat) (xl1 : Int32) (xl2 : Int32) (xl3 : Int32), wl_X6_trace_4  post n h al0 xl1 xl2 xl3 → AW G p l e R s m args below meth c 6 (QM G (pI post) args s below n0 s0) 4 [(0, .ref (G.1 + al0)), (1, .int xl1), (2, .int xl2), (3, .int xl3)] [] h := by
  intro n
  induction n with
  | zero => intro h al0 xl1 xl2 xl3 hw; exact hw.elim
  | succ n ih => intro h al0 xl1 xl2 xl3 hw; exact tb_X6_trace_4 C hr  ih hw
def wp_X6_trace (h : AH) (a0 : Nat) (x1 : Int32) (post : AH → Int32 → Prop) : Prop := ∃ n, wl_X6_trace_4  post n h a0 x1 0 x1
set_option maxRecDepth 100000 in
theorem c_X6_trace (G : GG) (h : AH) (a0 : Nat) (x1 : Int32) (post : AH → Int32 → Prop) (hw : wp_X6_trace h a0 x1 post) : MC G yX6_trace cX6_trace 6 (some .int) 1 21 h [.ref (G.1 + a0), .int x1] (pI post) := by
  refine MC.of (lv := [(0, .ref (G.1 + a0)), (1, .int x1)]) (by decide) (Nat.le_of_ble_eq_true rfl) rfl fun p l e R s m args below meth c C hr hnm => ?_
  unfold wp_X6_trace at hw
  refine r_iconst (v := 0) C dX6_trace_0 (by decide) ?_
  refine r_istore_n C dX6_trace_1 [(2, .int 0), (0, .ref (G.1 + a0)), (1, .int x1)] (by decide) rfl ?_
  refine r_iload_n C dX6_trace_2 2 rfl ?_
  refine r_istore_n C dX6_trace_3 [(3, .int x1), (2, .int 0), (0, .ref (G.1 + a0)), (1, .int x1)] (by decide) rfl ?_
  refine r_sub [2, 3, 1, 0] rfl ?_
  obtain ⟨n, hw⟩ := hw
  exact tl_X6_trace_4 C hr  n _ _ _ _ _ hw
theorem dX6_goOnFrom_0 : decode cX6_goOnFrom 0 = .ok (.aload_n 0, 1) := by decide +kernel
theorem dX6_goOnFrom_1 : decode cX6_goOnFrom 1 = .ok (.iload_n 1, 1) := by decide +kernel
theorem dX6_goOnFrom_2 : decode cX6_goOnFrom 2 = .ok (.invokevirtual 113, 3) := by decide +kernel
theorem dX6_goOnFrom_5 : decode cX6_goOnFrom 5 = .ok (.istore_n 3, 1) := by decide +kernel
theorem dX6_goOnFrom_6 : decode cX6_goOnFrom 6 = .ok (.iconst 0, 1) := by decide +kernel
theorem dX6_goOnFrom_7 : decode cX6_goOnFrom 7 = .ok (.istore 4, 2) := by decide +kernel
theorem dX6_goOnFrom_9 : decode cX6_goOnFrom 9 = .ok (.iload 4, 2) := by decide +kernel
theorem dX6_goOnFrom_11 : decode cX6_goOnFrom 11 = .ok (.iload_n 2, 1) := by decide +kernel
theorem dX6_goOnFrom_12 : decode cX6_goOnFrom 12 = .ok (.if_icmp .ge 124, 3) := by decide +kernel
theorem dX6_goOnFrom_15 : decode cX6_goOnFrom 15 = .ok (.iload 4, 2) := by decide +kernel
theorem dX6_goOnFrom_17 : decode cX6_goOnFrom 17 = .ok (.iconst 3, 1) := by decide +kernel
theorem dX6_goOnFrom_18 : decode cX6_goOnFrom 18 = .ok (.if_icmp .ge 118, 3) := by decide +kernel
theorem dX6_goOnFrom_21 : decode cX6_goOnFrom 21 = .ok (.iload 4, 2) := by decide +kernel
theorem dX6_goOnFrom_23 : decode cX6_goOnFrom 23 = .ok (.bipush 40, 2) := by decide +kernel
theorem dX6_goOnFrom_25 : decode cX6_goOnFrom 25 = .ok (.imul, 1) := by decide +kernel
theorem dX6_goOnFrom_26 : decode cX6_goOnFrom 26 = .ok (.iload_n 3, 1) := by decide +kernel
theorem dX6_goOnFrom_27 : decode cX6_goOnFrom 27 = .ok (.iload 4, 2) := by decide +kernel
theorem dX6_goOnFrom_29 : decode cX6_goOnFrom 29 = .ok (.invokestatic 116, 3) := by decide +kernel
theorem dX6_goOnFrom_32 : decode cX6_goOnFrom 32 = .ok (.iadd, 1) := by decide +kernel
theorem dX6_goOnFrom_33 : decode cX6_goOnFrom 33 = .ok (.iconst 5, 1) := by decide +kernel
theorem dX6_goOnFrom_34 : decode cX6_goOnFrom 34 = .ok (.imul, 1) := by decide +kernel
theorem dX6_goOnFrom_35 : decode cX6_goOnFrom 35 = .ok (.istore 5, 2) := by decide +kernel
theorem dX6_goOnFrom_37 : decode cX6_goOnFrom 37 = .ok (.aload_n 0, 1) := by decide +kernel
theorem dX6_goOnFrom_38 : decode cX6_goOnFrom 38 = .ok (.getfield 37, 3) := by decide +kernel
theorem dX6_goOnFrom_41 : decode cX6_goOnFrom 41 = .ok (.iload 4, 2) := by decide +kernel
theorem dX6_goOnFrom_43 : decode cX6_goOnFrom 43 = .ok (.iload_n 3, 1) := by decide +kernel
theorem dX6_goOnFrom_44 : decode cX6_goOnFrom 44 = .ok (.iconst 2, 1) := by decide +kernel
theorem dX6_goOnFrom_45 : decode cX6_goOnFrom 45 = .ok (.invokevirtual 120, 3) := by decide +kernel
theorem dX6_goOnFrom_48 : decode cX6_goOnFrom 48 = .ok (.lstore 6, 2) := by decide +kernel
theorem dX6_goOnFrom_50 : decode cX6_goOnFrom 50 = .ok (.iconst 0, 1) := by decide +kernel
theorem dX6_goOnFrom_51 : decode cX6_goOnFrom 51 = .ok (.istore 8, 2) := by decide +kernel
theorem dX6_goOnFrom_53 : decode cX6_goOnFrom 53 = .ok (.iload 8, 2) := by decide +kernel
theorem dX6_goOnFrom_55 : decode cX6_goOnFrom 55 = .ok (.iconst 5, 1) := by decide +kernel
theorem dX6_goOnFrom_56 : decode cX6_goOnFrom 56 = .ok (.if_icmp .ge 74, 3) := by decide +kernel
theorem dX6_goOnFrom_59 : decode cX6_goOnFrom 59 = .ok (.aload_n 0, 1) := by decide +kernel
theorem dX6_goOnFrom_60 : decode cX6_goOnFrom 60 = .ok (.getfield 37, 3) := by decide +kernel
theorem dX6_goOnFrom_63 : decode cX6_goOnFrom 63 = .ok (.getfield 124, 3) := by decide +kernel
theorem dX6_goOnFrom_66 : decode cX6_goOnFrom 66 = .ok (.iload 5, 2) := by decide +kernel
theorem dX6_goOnFrom_68 : decode cX6_goOnFrom 68 = .ok (.iload 8, 2) := by decide +kernel
theorem dX6_goOnFrom_70 : decode cX6_goOnFrom 70 = .ok (.iadd, 1) := by decide +kernel
theorem dX6_goOnFrom_71 : decode cX6_goOnFrom 71 = .ok (.iaload, 1) := by decide +kernel
theorem dX6_goOnFrom_72 : decode cX6_goOnFrom 72 = .ok (.istore 9, 2) := by decide +kernel
theorem dX6_goOnFrom_74 : decode cX6_goOnFrom 74 = .ok (.iload 9, 2) := by decide +kernel
theorem dX6_goOnFrom_76 : decode cX6_goOnFrom 76 = .ok (.ifCond .lt 48, 3) := by decide +kernel
theorem dX6_goOnFrom_79 : decode cX6_goOnFrom 79 = .ok (.lload 6, 2) := by decide +kernel
theorem dX6_goOnFrom_81 : decode cX6_goOnFrom 81 = .ok (.iload 9, 2) := by decide +kernel
theorem dX6_goOnFrom_83 : decode cX6_goOnFrom 83 = .ok (.lushr, 1) := by decide +kernel
theorem dX6_goOnFrom_84 : decode cX6_goOnFrom 84 = .ok (.lconst 1, 1) := by decide +kernel
theorem dX6_goOnFrom_85 : decode cX6_goOnFrom 85 = .ok (.land, 1) := by decide +kernel
theorem dX6_goOnFrom_86 : decode cX6_goOnFrom 86 = .ok (.lconst 0, 1) := by decide +kernel
theorem dX6_goOnFrom_87 : decode cX6_goOnFrom 87 = .ok (.lcmp, 1) := by decide +kernel
theorem dX6_goOnFrom_88 : decode cX6_goOnFrom 88 = .ok (.ifCond .eq 36, 3) := by decide +kernel
theorem dX6_goOnFrom_91 : decode cX6_goOnFrom 91 = .ok (.iload_n 3, 1) := by decide +kernel
theorem dX6_goOnFrom_92 : decode cX6_goOnFrom 92 = .ok (.iload 4, 2) := by decide +kernel
theorem dX6_goOnFrom_94 : decode cX6_goOnFrom 94 = .ok (.iload 9, 2) := by decide +kernel
theorem dX6_goOnFrom_96 : decode cX6_goOnFrom 96 = .ok (.invokestatic 127, 3) := by decide +kernel
theorem dX6_goOnFrom_99 : decode cX6_goOnFrom 99 = .ok (.istore 10, 2) := by decide +kernel
theorem dX6_goOnFrom_101 : decode cX6_goOnFrom 101 = .ok (.aload_n 0, 1) := by decide +kernel
theorem dX6_goOnFrom_102 : decode cX6_goOnFrom 102 = .ok (.iload 10, 2) := by decide +kernel
theorem dX6_goOnFrom_104 : decode cX6_goOnFrom 104 = .ok (.invokevirtual 98, 3) := by decide +kernel
theorem dX6_goOnFrom_107 : decode cX6_goOnFrom 107 = .ok (.ifCond .eq 17, 3) := by decide +kernel
theorem dX6_goOnFrom_110 : decode cX6_goOnFrom 110 = .ok (.aload_n 0, 1) := by decide +kernel
theorem dX6_goOnFrom_111 : decode cX6_goOnFrom 111 = .ok (.iload 10, 2) := by decide +kernel
theorem dX6_goOnFrom_113 : decode cX6_goOnFrom 113 = .ok (.iload 4, 2) := by decide +kernel
theorem dX6_goOnFrom_115 : decode cX6_goOnFrom 115 = .ok (.iconst 5, 1) := by decide +kernel
theorem dX6_goOnFrom_116 : decode cX6_goOnFrom 116 = .ok (.imul, 1) := by decide +kernel
theorem dX6_goOnFrom_117 : decode cX6_goOnFrom 117 = .ok (.iload 8, 2) := by decide +kernel
theorem dX6_goOnFrom_119 : decode cX6_goOnFrom 119 = .ok (.iadd, 1) := by decide +kernel
theorem dX6_goOnFrom_120 : decode cX6_goOnFrom 120 = .ok (.iload_n 1, 1) := by decide +kernel
theorem dX6_goOnFrom_121 : decode cX6_goOnFrom 121 = .ok (.invokevirtual 63, 3) := by decide +kernel
theorem dX6_goOnFrom_124 : decode cX6_goOnFrom 124 = .ok (.iinc 8 1, 3) := by decide +kernel
theorem dX6_goOnFrom_127 : decode cX6_goOnFrom 127 = .ok (.goto (-74), 3) := by decide +kernel
theorem dX6_goOnFrom_130 : decode cX6_goOnFrom 130 = .ok (.iinc 4 1, 3) := by decide +kernel
theorem dX6_goOnFrom_133 : decode cX6_goOnFrom 133 = .ok (.goto (-124), 3) := by decide +kernel
theorem dX6_goOnFrom_136 : decode cX6_goOnFrom 136 = .ok (.return_, 1) := by decide +kernel
def wb_X6_goOnFrom_124 (K9 : AH → Nat → Int32 → Int32 → Int32 → Int32 → Prop) (K53 : AH → Nat → Int32 → Int32 → Int32 → Int32 → Int32 → Int64 → Int32 → Prop) (h : AH) (al0 : Nat) (xl1 : Int32) (xl2 : Int32) (xl3 : Int32) (xl4 : Int32) (xl5 : Int32) (zl6 : Int64) (xl8 : Int32)  (post : AH → Prop) : Prop := ∀ iv1 : Int32, iv1 = xl8 + 1 → (K53 h al0 xl1 xl2 xl3 xl4 xl5 zl6 iv1)
set_option maxRecDepth 100000 in
theorem tb_X6_goOnFrom_124 {G : GG} {p : Program} {l : Launch} {e : Env} {R : Room} {s : State} {m : MethodId} {args : Array Value} {below : List Frame} {meth : Method} {c : Code} {n0 s0 : Nat} {post : AH → Prop} (C : Cx G p R s m args meth c 11 cX6_goOnFrom RX6 n0 s0 3 71) (hr : meth.sig.returnType = none) {K9 : AH → Nat → Int32 → Int32 → Int32 → Int32 → Prop} {K53 : AH → Nat → Int32 → Int32 → Int32 → Int32 → Int32 → Int64 → Int32 → Prop} (hK9 : ∀ (h : AH) (al0 : Nat) (xl1 : Int32) (xl2 : Int32) (xl3 : Int32) (xl4 : Int32), K9 h al0 xl1 xl2 xl3 xl4 → AW G p l e R s m args below meth c 11 (QM G (pV post) args s below n0 s0) 9 [(0, .ref (G.1 + al0)), (1, .int xl1), (2, .int xl2), (3, .int xl3), (4, .int xl4)] [] h) (hK53 : ∀ (h : AH) (al0 : Nat) (xl1 : Int32) (xl2 : Int32) (xl3 : Int32) (xl4 : Int32) (xl5 : Int32) (zl6 : Int64) (xl8 : Int32), K53 h al0 xl1 xl2 xl3 xl4 xl5 zl6 xl8 → AW G p l e R s m args below meth c 11 (QM G (pV post) args s below n0 s0) 53 [(0, .ref (G.1 + al0)), (1, .int xl1), (2, .int xl2), (3, .int xl3), (4, .int xl4), (5, .int xl5), (6, .long zl6), (8, .int xl8)] [] h) {h : AH} {al0 : Nat} {xl1 : Int32} {xl2 : Int32} {xl3 : Int32} {xl4 : Int32} {xl5 : Int32} {zl6 : Int64} {xl8 : Int32}  (hw : wb_X6_goOnFrom_124 K9 K53 h al0 xl1 xl2 xl3 xl4 xl5 zl6 xl8 post) : AW G p l e R s m args below meth c 11 (QM G (pV post) args s below n0 s0) 124 [(0, .ref (G.1 + al0)), (1, .int xl1), (2, .int xl2), (3, .int xl3), (4, .int xl4), (5, .int xl5), (6, .long zl6), (8, .int xl8)] [] h := by
  unfold wb_X6_goOnFrom_124 at hw
  obtain ⟨iv1, eiv1⟩ : ∃ q : Int32, q = xl8 + 1 := ⟨_, rfl⟩
  replace hw := hw iv1 eiv1
  refine r_iinc C dX6_goOnFrom_124 7 rfl (by rw [eiv1]; rfl) [(8, .int iv1), (0, .ref (G.1 + al0)), (1, .int xl1), (2, .int xl2), (3, .int xl3), (4, .int xl4), (5, .int xl5), (6, .long zl6)] (by decide) rfl ?_
  refine r_goto C dX6_goOnFrom_127 53 (by decide) ?_
  refine r_sub [1, 2, 3, 4, 5, 6, 7, 0] rfl ?_
  exact hK53 _ _ _ _ _ _ _ _ _ hw
def wb_X6_goOnFrom_53 (K9 : AH → Nat → Int32 → Int32 → Int32 → Int32 → Prop) (K53 : AH → Nat → Int32 → Int32 → Int32 → Int32 → Int32 → Int64 → Int32 → Prop) (h : AH) (al0 : Nat) (xl1 : Int32) (xl2 : Int32) (xl3 : Int32) (xl4 : Int32) (xl5 : Int32) (zl6 : Int64) (xl8 : Int32)  (post : AH → Prop) : Prop := (5 ≤ xl8 → (∀ iv1 : Int32, iv1 = xl4 + 1 → (K9 h al0 xl1 xl2 xl3 iv1))) ∧ (¬ 5 ≤ xl8 → ((ob h al0 6) ∧ (∃ rv2, aP h al0 0 = some rv2 ∧ ((ob h rv2 0) ∧ (∃ rv3, aP h rv2 5 = some rv3 ∧ ((ob h rv3 13) ∧ ((vp_in (xl5 + xl8) (aL h rv3)) ∧ (∀ iv4 : Int32, iv4 = aI h rv3 (xl5 + xl8).toNatClampNeg → ((iv4 < 0 → (wb_X6_goOnFrom_124 K9 K53 h al0 xl1 xl2 xl3 xl4 xl5 zl6 xl8 post)) ∧ (¬ iv4 < 0 → (((lg_cmp (((zl6.toUInt64 >>> (iv4.toInt64.toUInt64 &&& Int64.toUInt64 63)).toInt64) &&& (1 : Int64)) 0) = 0 → (wb_X6_goOnFrom_124 K9 K53 h al0 xl1 xl2 xl3 xl4 xl5 zl6 xl8 post)) ∧ (¬ (lg_cmp (((zl6.toUInt64 >>> (iv4.toInt64.toUInt64 &&& Int64.toUInt64 63)).toInt64) &&& (1 : Int64)) 0) = 0 → (wp_X0_withNumber h xl3 xl4 iv4 (fun hv5 iv6 => (ob hv5 al0 6) ∧ wp_X6_isNew hv5 al0 iv6 (fun hv7 iv8 => (iv8 = 0 → (wb_X6_goOnFrom_124 K9 K53 hv7 al0 xl1 xl2 xl3 xl4 xl5 zl6 xl8 post)) ∧ (¬ iv8 = 0 → ((ob hv7 al0 6) ∧ wp_X6_push hv7 al0 iv6 ((xl4 * (5 : Int32)) + xl8) xl1 (fun hv9  => wb_X6_goOnFrom_124 K9 K53 hv9 al0 xl1 xl2 xl3 xl4 xl5 zl6 xl8 post))))))))))))))))))
set_option maxRecDepth 100000 in
theorem tb_X6_goOnFrom_53 {G : GG} {p : Program} {l : Launch} {e : Env} {R : Room} {s : State} {m : MethodId} {args : Array Value} {below : List Frame} {meth : Method} {c : Code} {n0 s0 : Nat} {post : AH → Prop} (C : Cx G p R s m args meth c 11 cX6_goOnFrom RX6 n0 s0 3 71) (hr : meth.sig.returnType = none) {K9 : AH → Nat → Int32 → Int32 → Int32 → Int32 → Prop} {K53 : AH → Nat → Int32 → Int32 → Int32 → Int32 → Int32 → Int64 → Int32 → Prop} (hK9 : ∀ (h : AH) (al0 : Nat) (xl1 : Int32) (xl2 : Int32) (xl3 : Int32) (xl4 : Int32), K9 h al0 xl1 xl2 xl3 xl4 → AW G p l e R s m args below meth c 11 (QM G (pV post) args s below n0 s0) 9 [(0, .ref (G.1 + al0)), (1, .int xl1), (2, .int xl2), (3, .int xl3), (4, .int xl4)] [] h) (hK53 : ∀ (h : AH) (al0 : Nat) (xl1 : Int32) (xl2 : Int32) (xl3 : Int32) (xl4 : Int32) (xl5 : Int32) (zl6 : Int64) (xl8 : Int32), K53 h al0 xl1 xl2 xl3 xl4 xl5 zl6 xl8 → AW G p l e R s m args below meth c 11 (QM G (pV post) args s below n0 s0) 53 [(0, .ref (G.1 + al0)), (1, .int xl1), (2, .int xl2), (3, .int xl3), (4, .int xl4), (5, .int xl5), (6, .long zl6), (8, .int xl8)] [] h) {h : AH} {al0 : Nat} {xl1 : Int32} {xl2 : Int32} {xl3 : Int32} {xl4 : Int32} {xl5 : Int32} {zl6 : Int64} {xl8 : Int32}  (hw : wb_X6_goOnFrom_53 K9 K53 h al0 xl1 xl2 xl3 xl4 xl5 zl6 xl8 post) : AW G p l e R s m args below meth c 11 (QM G (pV post) args s below n0 s0) 53 [(0, .ref (G.1 + al0)), (1, .int xl1), (2, .int xl2), (3, .int xl3), (4, .int xl4), (5, .int xl5), (6, .long zl6), (8, .int xl8)] [] h := by
  unfold wb_X6_goOnFrom_53 at hw
  refine r_iload C dX6_goOnFrom_53 7 rfl ?_
  refine r_iconst (v := 5) C dX6_goOnFrom_55 (by decide) ?_
  refine r_icmp_ge C dX6_goOnFrom_56 130 (by decide) (fun hc => ?_) (fun hc => ?_)
  · replace hw := hw.1 hc
    obtain ⟨iv1, eiv1⟩ : ∃ q : Int32, q = xl4 + 1 := ⟨_, rfl⟩
    replace hw := hw iv1 eiv1
    refine r_iinc C dX6_goOnFrom_130 4 rfl (by rw [eiv1]; rfl) [(4, .int iv1), (0, .ref (G.1 + al0)), (1, .int xl1), (2, .int xl2), (3, .int xl3), (5, .int xl5), (6, .long zl6), (8, .int xl8)] (by decide) rfl ?_
    refine r_goto C dX6_goOnFrom_133 9 (by decide) ?_
    refine r_sub [1, 2, 3, 4, 0] rfl ?_
    exact hK9 _ _ _ _ _ _ hw
  · replace hw := hw.2 hc
    refine r_aload_n C dX6_goOnFrom_59 0 rfl ?_
    have hob := hw.1
    obtain ⟨rv2, hp, hw⟩ := hw.2
    refine r_getP C fl_RX6_37_6 hob hp (fun _ _ _ => rfl) dX6_goOnFrom_60 ?_
    have hob := hw.1
    obtain ⟨rv3, hp, hw⟩ := hw.2
    refine r_getP C fl_RX6_124_0 hob hp (fun _ _ _ => rfl) dX6_goOnFrom_63 ?_
    refine r_iload C dX6_goOnFrom_66 5 rfl ?_
    refine r_iload C dX6_goOnFrom_68 7 rfl ?_
    refine r_iadd C dX6_goOnFrom_70 ?_
    refine r_iaload C hw.1 hw.2.1 dX6_goOnFrom_71 ?_
    replace hw := hw.2.2
    refine r_topi fun iv4 eiv4 => ?_
    replace hw := hw iv4 eiv4
    refine r_istore C dX6_goOnFrom_72 [(9, .int iv4), (0, .ref (G.1 + al0)), (1, .int xl1), (2, .int xl2), (3, .int xl3), (4, .int xl4), (5, .int xl5), (6, .long zl6), (8, .int xl8)] (by decide) rfl ?_
    refine r_iload C dX6_goOnFrom_74 0 rfl ?_
    refine r_if_lt C dX6_goOnFrom_76 124 (by decide) (fun hc => ?_) (fun hc => ?_)
    · replace hw := hw.1 hc
      refine r_sub [1, 2, 3, 4, 5, 6, 7, 8] rfl ?_
      exact tb_X6_goOnFrom_124 C hr hK9 hK53 hw
    · replace hw := hw.2 hc
      refine r_lload C dX6_goOnFrom_79 7 rfl ?_
      refine r_iload C dX6_goOnFrom_81 0 rfl ?_
      refine r_lushr C dX6_goOnFrom_83 ?_
      refine r_lconst (v := 1) C dX6_goOnFrom_84 (by decide) ?_
      refine r_land C dX6_goOnFrom_85 ?_
      refine r_lconst (v := 0) C dX6_goOnFrom_86 (by decide) ?_
      refine r_lcmp C dX6_goOnFrom_87 ?_
      refine r_if_eq C dX6_goOnFrom_88 124 (by decide) (fun hc => ?_) (fun hc => ?_)
      · replace hw := hw.1 hc
        refine r_sub [1, 2, 3, 4, 5, 6, 7, 8] rfl ?_
        exact tb_X6_goOnFrom_124 C hr hK9 hK53 hw
      · replace hw := hw.2 hc
        refine r_iload_n C dX6_goOnFrom_91 4 rfl ?_
        refine r_iload C dX6_goOnFrom_92 5 rfl ?_
        refine r_iload C dX6_goOnFrom_94 0 rfl ?_
        refine r_callS C (As := [.int xl3, .int xl4, .int iv4]) (rest := []) (c_X0_withNumber G h xl3 xl4 iv4 _ hw) yl_X0_withNumber (gm5 (List.mem_of_getElem? (i := 167) rfl) rfl) (gm5 (List.mem_of_getElem? (i := 168) rfl) rfl) (by decide) rfl (Nat.le_of_ble_eq_true rfl) dX6_goOnFrom_96 rfl (kI fun hv5 iv6 hw => ?_)
        refine r_istore C dX6_goOnFrom_99 [(10, .int iv6), (9, .int iv4), (0, .ref (G.1 + al0)), (1, .int xl1), (2, .int xl2), (3, .int xl3), (4, .int xl4), (5, .int xl5), (6, .long zl6), (8, .int xl8)] (by decide) rfl ?_
        refine r_aload_n C dX6_goOnFrom_101 2 rfl ?_
        refine r_iload C dX6_goOnFrom_102 0 rfl ?_
        have hob := hw.1
        replace hw := hw.2
        refine r_callV C (As := [.int iv6]) (rest := []) (c_X6_isNew G hv5 al0 iv6 _ hw) yl_X6_isNew (gm5 (List.mem_of_getElem? (i := 145) rfl) rfl) (gm5 (List.mem_of_getElem? (i := 147) rfl) rfl) (ci := 6) rfl (by decide) (gsel (List.mem_of_getElem? (i := 27) rfl)) hob (by decide) rfl (Nat.le_of_ble_eq_true rfl) dX6_goOnFrom_104 rfl (kI fun hv7 iv8 hw => ?_)
        refine r_if_eq C dX6_goOnFrom_107 124 (by decide) (fun hc => ?_) (fun hc => ?_)
        · replace hw := hw.1 hc
          refine r_sub [2, 3, 4, 5, 6, 7, 8, 9] rfl ?_
          exact tb_X6_goOnFrom_124 C hr hK9 hK53 hw
        · replace hw := hw.2 hc
          refine r_aload_n C dX6_goOnFrom_110 2 rfl ?_
          refine r_iload C dX6_goOnFrom_111 0 rfl ?_
          refine r_iload C dX6_goOnFrom_113 6 rfl ?_
          refine r_iconst (v := 5) C dX6_goOnFrom_115 (by decide) ?_
          refine r_imul C dX6_goOnFrom_116 ?_
          refine r_iload C dX6_goOnFrom_117 9 rfl ?_
          refine r_iadd C dX6_goOnFrom_119 ?_
          refine r_iload_n C dX6_goOnFrom_120 3 rfl ?_
          have hob := hw.1
          replace hw := hw.2
          refine r_callV C (As := [.int iv6, .int ((xl4 * (5 : Int32)) + xl8), .int xl1]) (rest := []) (c_X6_push G hv7 al0 iv6 ((xl4 * (5 : Int32)) + xl8) xl1 _ hw) yl_X6_push (gm5 (List.mem_of_getElem? (i := 128) rfl) rfl) (gm5 (List.mem_of_getElem? (i := 130) rfl) rfl) (ci := 6) rfl (by decide) (gsel (List.mem_of_getElem? (i := 26) rfl)) hob (by decide) rfl (Nat.le_of_ble_eq_true rfl) dX6_goOnFrom_121 rfl (kV fun hv9  hw => ?_)
          refine r_sub [2, 3, 4, 5, 6, 7, 8, 9] rfl ?_
          exact tb_X6_goOnFrom_124 C hr hK9 hK53 hw
def wl_X6_goOnFrom_53 (K9 : AH → Nat → Int32 → Int32 → Int32 → Int32 → Prop) (post : AH → Prop) : Nat → AH → Nat → Int32 → Int32 → Int32 → Int32 → Int32 → Int64 → Int32 → Prop
  | 0 => fun _ _ _ _ _ _ _ _ _ => False
  | n + 1 => fun h al0 xl1 xl2 xl3 xl4 xl5 zl6 xl8 => wb_X6_goOnFrom_53 K9 (wl_X6_goOnFrom_53 K9 post n) h al0 xl1 xl2 xl3 xl4 xl5 zl6 xl8 post
theorem tl_X6_goOnFrom_53 {G : GG} {p : Program} {l : Launch} {e : Env} {R : Room} {s : State} {m : MethodId} {args : Array Value} {below : List Frame} {meth : Method} {c : Code} {n0 s0 : Nat} {post : AH → Prop} (C : Cx G p R s m args meth c 11 cX6_goOnFrom RX6 n0 s0 3 71) (hr : meth.sig.returnType = none) {K9 : AH → Nat → Int32 → Int32 → Int32 → Int32 → Prop} (hK9 : ∀ (h : AH) (al0 : Nat) (xl1 : Int32) (xl2 : Int32) (xl3 : Int32) (xl4 : Int32), K9 h al0 xl1 xl2 xl3 xl4 → AW G p l e R s m args below meth c 11 (QM G (pV post) args s below n0 s0) 9 [(0, .ref (G.1 + al0)), (1, .int xl1), (2, .int xl2), (3, .int xl3), (4, .int xl4)] [] h) : ∀ (n : Nat) (h : AH) (al0 : Nat) (xl1 : Int32) (xl2 : Int32) (xl3 : Int32) (xl4 : Int32) (xl5 : Int32) (zl6 : Int64) (xl8 : Int32), wl_X6_goOnFrom_53 K9 post n h al0 xl1 xl2 xl3 xl4 xl5 zl6 xl8 → AW G p l e R s m args below meth c 11 (QM G (pV post) args s below n0 s0) 53 [(0, .ref (G.1 + al0)), (1, .int xl1), (2, .int xl2), (3, .int xl3), (4, .int xl4), (5, .int xl5), (6, .long zl6), (8, .int xl8)] [] h := by
  intro n
  induction n with
  | zero => intro h al0 xl1 xl2 xl3 xl4 xl5 zl6 xl8 hw; exact hw.elim
  | succ n ih => intro h al0 xl1 xl2 xl3 xl4 xl5 zl6 xl8 hw; exact tb_X6_goOnFrom_53 C hr hK9 ih hw
def wb_X6_goOnFrom_9 (K9 : AH → Nat → Int32 → Int32 → Int32 → Int32 → Prop) (h : AH) (al0 : Nat) (xl1 : Int32) (xl2 : Int32) (xl3 : Int32) (xl4 : Int32)  (post : AH → Prop) : Prop := (xl2 ≤ xl4 → (post h)) ∧ (¬ xl2 ≤ xl4 → ((3 ≤ xl4 → (post h)) ∧ (¬ 3 ≤ xl4 → (wp_X0_numberIn h xl3 xl4 (fun hv1 iv2 => ∀ iv3 : Int32, iv3 = ((xl4 * (40 : Int32)) + iv2) * (5 : Int32) → ((ob hv1 al0 6) ∧ (∃ rv4, aP hv1 al0 0 = some rv4 ∧ ((ob hv1 rv4 0) ∧ wp_X0_roomFor hv1 rv4 xl4 xl3 2 (fun hv5 jv6 => ∃ n, wl_X6_goOnFrom_53 K9 post n hv5 al0 xl1 xl2 xl3 xl4 iv3 jv6 0)))))))))
set_option maxRecDepth 100000 in
theorem tb_X6_goOnFrom_9 {G : GG} {p : Program} {l : Launch} {e : Env} {R : Room} {s : State} {m : MethodId} {args : Array Value} {below : List Frame} {meth : Method} {c : Code} {n0 s0 : Nat} {post : AH → Prop} (C : Cx G p R s m args meth c 11 cX6_goOnFrom RX6 n0 s0 3 71) (hr : meth.sig.returnType = none) {K9 : AH → Nat → Int32 → Int32 → Int32 → Int32 → Prop} (hK9 : ∀ (h : AH) (al0 : Nat) (xl1 : Int32) (xl2 : Int32) (xl3 : Int32) (xl4 : Int32), K9 h al0 xl1 xl2 xl3 xl4 → AW G p l e R s m args below meth c 11 (QM G (pV post) args s below n0 s0) 9 [(0, .ref (G.1 + al0)), (1, .int xl1), (2, .int xl2), (3, .int xl3), (4, .int xl4)] [] h) {h : AH} {al0 : Nat} {xl1 : Int32} {xl2 : Int32} {xl3 : Int32} {xl4 : Int32}  (hw : wb_X6_goOnFrom_9 K9 h al0 xl1 xl2 xl3 xl4 post) : AW G p l e R s m args below meth c 11 (QM G (pV post) args s below n0 s0) 9 [(0, .ref (G.1 + al0)), (1, .int xl1), (2, .int xl2), (3, .int xl3), (4, .int xl4)] [] h := by
  unfold wb_X6_goOnFrom_9 at hw
  refine r_iload C dX6_goOnFrom_9 4 rfl ?_
  refine r_iload_n C dX6_goOnFrom_11 2 rfl ?_
  refine r_icmp_ge C dX6_goOnFrom_12 136 (by decide) (fun hc => ?_) (fun hc => ?_)
  · replace hw := hw.1 hc
    exact r_vret C hr dX6_goOnFrom_136 hw
  · replace hw := hw.2 hc
    refine r_iload C dX6_goOnFrom_15 4 rfl ?_
    refine r_iconst (v := 3) C dX6_goOnFrom_17 (by decide) ?_
    refine r_icmp_ge C dX6_goOnFrom_18 136 (by decide) (fun hc => ?_) (fun hc => ?_)
    · replace hw := hw.1 hc
      exact r_vret C hr dX6_goOnFrom_136 hw
    · replace hw := hw.2 hc
      refine r_iload C dX6_goOnFrom_21 4 rfl ?_
      refine r_bipush (v := 40) C dX6_goOnFrom_23 (by decide) ?_
      refine r_imul C dX6_goOnFrom_25 ?_
      refine r_iload_n C dX6_goOnFrom_26 3 rfl ?_
      refine r_iload C dX6_goOnFrom_27 4 rfl ?_
      refine r_callS C (As := [.int xl3, .int xl4]) (rest := [.int (xl4 * (40 : Int32))]) (c_X0_numberIn G h xl3 xl4 _ hw) yl_X0_numberIn (gm5 (List.mem_of_getElem? (i := 158) rfl) rfl) (gm5 (List.mem_of_getElem? (i := 159) rfl) rfl) (by decide) rfl (Nat.le_of_ble_eq_true rfl) dX6_goOnFrom_29 rfl (kI fun hv1 iv2 hw => ?_)
      refine r_iadd C dX6_goOnFrom_32 ?_
      refine r_iconst (v := 5) C dX6_goOnFrom_33 (by decide) ?_
      refine r_imul C dX6_goOnFrom_34 ?_
      refine r_topi fun iv3 eiv3 => ?_
      replace hw := hw iv3 eiv3
      refine r_istore C dX6_goOnFrom_35 [(5, .int iv3), (0, .ref (G.1 + al0)), (1, .int xl1), (2, .int xl2), (3, .int xl3), (4, .int xl4)] (by decide) rfl ?_
      refine r_aload_n C dX6_goOnFrom_37 1 rfl ?_
      have hob := hw.1
      obtain ⟨rv4, hp, hw⟩ := hw.2
      refine r_getP C fl_RX6_37_6 hob hp (fun _ _ _ => rfl) dX6_goOnFrom_38 ?_
      refine r_iload C dX6_goOnFrom_41 5 rfl ?_
      refine r_iload_n C dX6_goOnFrom_43 4 rfl ?_
      refine r_iconst (v := 2) C dX6_goOnFrom_44 (by decide) ?_
      have hob := hw.1
      replace hw := hw.2
      refine r_callV C (As := [.int xl4, .int xl3, .int 2]) (rest := []) (c_X0_roomFor G hv1 rv4 xl4 xl3 2 _ hw) yl_X0_roomFor (gm5 (List.mem_of_getElem? (i := 161) rfl) rfl) (gm5 (List.mem_of_getElem? (i := 162) rfl) rfl) (ci := 0) rfl (by decide) (gm5 (List.mem_of_getElem? (i := 163) rfl) rfl) hob (by decide) rfl (Nat.le_of_ble_eq_true rfl) dX6_goOnFrom_45 rfl (kJ fun hv5 jv6 hw => ?_)
      refine r_lstore C dX6_goOnFrom_48 [(6, .long jv6), (5, .int iv3), (0, .ref (G.1 + al0)), (1, .int xl1), (2, .int xl2), (3, .int xl3), (4, .int xl4)] (by decide) rfl ?_
      refine r_iconst (v := 0) C dX6_goOnFrom_50 (by decide) ?_
      refine r_istore C dX6_goOnFrom_51 [(8, .int 0), (6, .long jv6), (5, .int iv3), (0, .ref (G.1 + al0)), (1, .int xl1), (2, .int xl2), (3, .int xl3), (4, .int xl4)] (by decide) rfl ?_
      refine r_sub [3, 4, 5, 6, 7, 2, 1, 0] rfl ?_
      obtain ⟨n, hw⟩ := hw
      exact tl_X6_goOnFrom_53 C hr hK9 n _ _ _ _ _ _ _ _ _ hw
def wl_X6_goOnFrom_9  (post : AH → Prop) : Nat → AH → Nat → Int32 → Int32 → Int32 → Int32 → Prop
  | 0 => fun _ _ _ _ _ _ => False
  | n + 1 => fun h al0 xl1 xl2 xl3 xl4 => wb_X6_goOnFrom_9  (wl_X6_goOnFrom_9  post n) h al0 xl1 xl2 xl3 xl4 post
theorem tl_X6_goOnFrom_9 {G : GG} {p : Program} {l : Launch} {e : Env} {R : Room} {s : State} {m : MethodId} {args : Array Value} {below : List Frame} {meth : Method} {c : Code} {n0 s0 : Nat} {post : AH → Prop} (C : Cx G p R s m args meth c 11 cX6_goOnFrom RX6 n0 s0 3 71) (hr : meth.sig.returnType = none)   : ∀ (n : Nat) (h : AH) (al0 : Nat) (xl1 : Int32) (xl2 : Int32) (xl3 : Int32) (xl4 : Int32), wl_X6_goOnFrom_9  post n h al0 xl1 xl2 xl3 xl4 → AW G p l e R s m args below meth c 11 (QM G (pV post) args s below n0 s0) 9 [(0, .ref (G.1 + al0)), (1, .int xl1), (2, .int xl2), (3, .int xl3), (4, .int xl4)] [] h := by
  intro n
  induction n with
  | zero => intro h al0 xl1 xl2 xl3 xl4 hw; exact hw.elim
  | succ n ih => intro h al0 xl1 xl2 xl3 xl4 hw; exact tb_X6_goOnFrom_9 C hr  ih hw
def wp_X6_goOnFrom (h : AH) (a0 : Nat) (x1 : Int32) (x2 : Int32) (post : AH → Prop) : Prop := (ob h a0 6) ∧ wp_X6_stateAt h a0 x1 (fun hv1 iv2 => ∃ n, wl_X6_goOnFrom_9  post n hv1 a0 x1 x2 iv2 0)
set_option maxRecDepth 100000 in
theorem c_X6_goOnFrom (G : GG) (h : AH) (a0 : Nat) (x1 : Int32) (x2 : Int32) (post : AH → Prop) (hw : wp_X6_goOnFrom h a0 x1 x2 post) : MC G yX6_goOnFrom cX6_goOnFrom 11 none 3 71 h [.ref (G.1 + a0), .int x1, .int x2] (pV post) := by
  refine MC.of (lv := [(0, .ref (G.1 + a0)), (1, .int x1), (2, .int x2)]) (by decide) (Nat.le_of_ble_eq_true rfl) rfl fun p l e R s m args below meth c C hr hnm => ?_
  unfold wp_X6_goOnFrom at hw
  refine r_aload_n C dX6_goOnFrom_0 0 rfl ?_
  refine r_iload_n C dX6_goOnFrom_1 1 rfl ?_
  have hob := hw.1
  replace hw := hw.2
  refine r_callV C (As := [.int x1]) (rest := []) (c_X6_stateAt G h a0 x1 _ hw) yl_X6_stateAt (gm5 (List.mem_of_getElem? (i := 153) rfl) rfl) (gm5 (List.mem_of_getElem? (i := 155) rfl) rfl) (ci := 6) rfl (by decide) (gsel (List.mem_of_getElem? (i := 29) rfl)) hob (by decide) rfl (Nat.le_of_ble_eq_true rfl) dX6_goOnFrom_2 rfl (kI fun hv1 iv2 hw => ?_)
  refine r_istore_n C dX6_goOnFrom_5 [(3, .int iv2), (0, .ref (G.1 + a0)), (1, .int x1), (2, .int x2)] (by decide) rfl ?_
  refine r_iconst (v := 0) C dX6_goOnFrom_6 (by decide) ?_
  refine r_istore C dX6_goOnFrom_7 [(4, .int 0), (3, .int iv2), (0, .ref (G.1 + a0)), (1, .int x1), (2, .int x2)] (by decide) rfl ?_
  refine r_sub [2, 3, 4, 1, 0] rfl ?_
  obtain ⟨n, hw⟩ := hw
  exact tl_X6_goOnFrom_9 C hr  n _ _ _ _ _ _ hw
theorem dX6_leastActs_0 : decode cX6_leastActs 0 = .ok (.aload_n 0, 1) := by decide +kernel
theorem dX6_leastActs_1 : decode cX6_leastActs 1 = .ok (.getfield 37, 3) := by decide +kernel
theorem dX6_leastActs_4 : decode cX6_leastActs 4 = .ok (.aload_n 1, 1) := by decide +kernel
theorem dX6_leastActs_5 : decode cX6_leastActs 5 = .ok (.invokevirtual 83, 3) := by decide +kernel
theorem dX6_leastActs_8 : decode cX6_leastActs 8 = .ok (.aload_n 0, 1) := by decide +kernel
theorem dX6_leastActs_9 : decode cX6_leastActs 9 = .ok (.getfield 37, 3) := by decide +kernel
theorem dX6_leastActs_12 : decode cX6_leastActs 12 = .ok (.iload 4, 2) := by decide +kernel
theorem dX6_leastActs_14 : decode cX6_leastActs 14 = .ok (.invokevirtual 86, 3) := by decide +kernel
theorem dX6_leastActs_17 : decode cX6_leastActs 17 = .ok (.aload_n 0, 1) := by decide +kernel
theorem dX6_leastActs_18 : decode cX6_leastActs 18 = .ok (.getfield 37, 3) := by decide +kernel
theorem dX6_leastActs_21 : decode cX6_leastActs 21 = .ok (.aload_n 2, 1) := by decide +kernel
theorem dX6_leastActs_22 : decode cX6_leastActs 22 = .ok (.invokevirtual 90, 3) := by decide +kernel
theorem dX6_leastActs_25 : decode cX6_leastActs 25 = .ok (.istore 5, 2) := by decide +kernel
theorem dX6_leastActs_27 : decode cX6_leastActs 27 = .ok (.aload_n 0, 1) := by decide +kernel
theorem dX6_leastActs_28 : decode cX6_leastActs 28 = .ok (.iload 5, 2) := by decide +kernel
theorem dX6_leastActs_30 : decode cX6_leastActs 30 = .ok (.aload_n 0, 1) := by decide +kernel
theorem dX6_leastActs_31 : decode cX6_leastActs 31 = .ok (.getfield 37, 3) := by decide +kernel
theorem dX6_leastActs_34 : decode cX6_leastActs 34 = .ok (.aload_n 3, 1) := by decide +kernel
theorem dX6_leastActs_35 : decode cX6_leastActs 35 = .ok (.invokevirtual 90, 3) := by decide +kernel
theorem dX6_leastActs_38 : decode cX6_leastActs 38 = .ok (.invokevirtual 94, 3) := by decide +kernel
theorem dX6_leastActs_41 : decode cX6_leastActs 41 = .ok (.aload_n 0, 1) := by decide +kernel
theorem dX6_leastActs_42 : decode cX6_leastActs 42 = .ok (.iload 5, 2) := by decide +kernel
theorem dX6_leastActs_44 : decode cX6_leastActs 44 = .ok (.invokevirtual 98, 3) := by decide +kernel
theorem dX6_leastActs_47 : decode cX6_leastActs 47 = .ok (.pop, 1) := by decide +kernel
theorem dX6_leastActs_48 : decode cX6_leastActs 48 = .ok (.iconst 0, 1) := by decide +kernel
theorem dX6_leastActs_49 : decode cX6_leastActs 49 = .ok (.istore 6, 2) := by decide +kernel
theorem dX6_leastActs_51 : decode cX6_leastActs 51 = .ok (.iload 6, 2) := by decide +kernel
theorem dX6_leastActs_53 : decode cX6_leastActs 53 = .ok (.aload_n 0, 1) := by decide +kernel
theorem dX6_leastActs_54 : decode cX6_leastActs 54 = .ok (.getfield 54, 3) := by decide +kernel
theorem dX6_leastActs_57 : decode cX6_leastActs 57 = .ok (.if_icmp .ge 33, 3) := by decide +kernel
theorem dX6_leastActs_60 : decode cX6_leastActs 60 = .ok (.iload 6, 2) := by decide +kernel
theorem dX6_leastActs_62 : decode cX6_leastActs 62 = .ok (.ldc 67, 2) := by decide +kernel
theorem dX6_leastActs_64 : decode cX6_leastActs 64 = .ok (.if_icmp .ge 26, 3) := by decide +kernel
theorem dX6_leastActs_67 : decode cX6_leastActs 67 = .ok (.aload_n 0, 1) := by decide +kernel
theorem dX6_leastActs_68 : decode cX6_leastActs 68 = .ok (.getfield 60, 3) := by decide +kernel
theorem dX6_leastActs_71 : decode cX6_leastActs 71 = .ok (.ifCond .ge 19, 3) := by decide +kernel
theorem dX6_leastActs_74 : decode cX6_leastActs 74 = .ok (.aload_n 0, 1) := by decide +kernel
theorem dX6_leastActs_75 : decode cX6_leastActs 75 = .ok (.iload 6, 2) := by decide +kernel
theorem dX6_leastActs_77 : decode cX6_leastActs 77 = .ok (.aload_n 1, 1) := by decide +kernel
theorem dX6_leastActs_78 : decode cX6_leastActs 78 = .ok (.getfield 102, 3) := by decide +kernel
theorem dX6_leastActs_81 : decode cX6_leastActs 81 = .ok (.invokevirtual 107, 3) := by decide +kernel
theorem dX6_leastActs_84 : decode cX6_leastActs 84 = .ok (.iinc 6 1, 3) := by decide +kernel
theorem dX6_leastActs_87 : decode cX6_leastActs 87 = .ok (.goto (-36), 3) := by decide +kernel
theorem dX6_leastActs_90 : decode cX6_leastActs 90 = .ok (.aload_n 0, 1) := by decide +kernel
theorem dX6_leastActs_91 : decode cX6_leastActs 91 = .ok (.getfield 60, 3) := by decide +kernel
theorem dX6_leastActs_94 : decode cX6_leastActs 94 = .ok (.ifCond .ge 7, 3) := by decide +kernel
theorem dX6_leastActs_97 : decode cX6_leastActs 97 = .ok (.iconst (-1), 1) := by decide +kernel
theorem dX6_leastActs_98 : decode cX6_leastActs 98 = .ok (.goto 11, 3) := by decide +kernel
theorem dX6_leastActs_101 : decode cX6_leastActs 101 = .ok (.aload_n 0, 1) := by decide +kernel
theorem dX6_leastActs_102 : decode cX6_leastActs 102 = .ok (.aload_n 0, 1) := by decide +kernel
theorem dX6_leastActs_103 : decode cX6_leastActs 103 = .ok (.getfield 60, 3) := by decide +kernel
theorem dX6_leastActs_106 : decode cX6_leastActs 106 = .ok (.invokevirtual 110, 3) := by decide +kernel
theorem dX6_leastActs_109 : decode cX6_leastActs 109 = .ok (.ireturn, 1) := by decide +kernel
def wb_X6_leastActs_90  (h : AH) (al0 : Nat)  (post : AH → Int32 → Prop) : Prop := (ob h al0 6) ∧ ((0 ≤ (aI h al0 5) → ((ob h al0 6) ∧ ((ob h al0 6) ∧ wp_X6_trace h al0 (aI h al0 5) (fun hv1 iv2 => post hv1 iv2)))) ∧ (¬ 0 ≤ (aI h al0 5) → (post h (-1))))
set_option maxRecDepth 100000 in
theorem tb_X6_leastActs_90 {G : GG} {p : Program} {l : Launch} {e : Env} {R : Room} {s : State} {m : MethodId} {args : Array Value} {below : List Frame} {meth : Method} {c : Code} {n0 s0 : Nat} {post : AH → Int32 → Prop} (C : Cx G p R s m args meth c 7 cX6_leastActs RX6 n0 s0 5 126) (hr : meth.sig.returnType = (some .int))   {h : AH} {al0 : Nat}  (hw : wb_X6_leastActs_90  h al0 post) : AW G p l e R s m args below meth c 7 (QM G (pI post) args s below n0 s0) 90 [(0, .ref (G.1 + al0))] [] h := by
  unfold wb_X6_leastActs_90 at hw
  refine r_aload_n C dX6_leastActs_90 0 rfl ?_
  refine r_getI C fl_RX6_60_6 hw.1 (fun _ _ _ => rfl) dX6_leastActs_91 ?_
  replace hw := hw.2
  refine r_if_ge C dX6_leastActs_94 101 (by decide) (fun hc => ?_) (fun hc => ?_)
  · replace hw := hw.1 hc
    refine r_aload_n C dX6_leastActs_101 0 rfl ?_
    refine r_aload_n C dX6_leastActs_102 0 rfl ?_
    refine r_getI C fl_RX6_60_6 hw.1 (fun _ _ _ => rfl) dX6_leastActs_103 ?_
    replace hw := hw.2
    have hob := hw.1
    replace hw := hw.2
    refine r_callV C (As := [.int (aI h al0 5)]) (rest := []) (c_X6_trace G h al0 (aI h al0 5) _ hw) yl_X6_trace (gm5 (List.mem_of_getElem? (i := 170) rfl) rfl) (gm5 (List.mem_of_getElem? (i := 172) rfl) rfl) (ci := 6) rfl (by decide) (gsel (List.mem_of_getElem? (i := 30) rfl)) hob (by decide) rfl (Nat.le_of_ble_eq_true rfl) dX6_leastActs_106 rfl (kI fun hv1 iv2 hw => ?_)
    exact r_iret C hr dX6_leastActs_109 hw
  · replace hw := hw.2 hc
    refine r_iconst (v := (-1)) C dX6_leastActs_97 (by decide) ?_
    refine r_goto C dX6_leastActs_98 109 (by decide) ?_
    exact r_iret C hr dX6_leastActs_109 hw
def wb_X6_leastActs_51 (K51 : AH → Nat → Nat → Int32 → Prop) (h : AH) (al0 : Nat) (al1 : Nat) (xl6 : Int32)  (post : AH → Int32 → Prop) : Prop := (ob h al0 6) ∧ (((aI h al0 3) ≤ xl6 → (wb_X6_leastActs_90  h al0 post)) ∧ (¬ (aI h al0 3) ≤ xl6 → ((64000 ≤ xl6 → (wb_X6_leastActs_90  h al0 post)) ∧ (¬ 64000 ≤ xl6 → ((ob h al0 6) ∧ ((0 ≤ (aI h al0 5) → (wb_X6_leastActs_90  h al0 post)) ∧ (¬ 0 ≤ (aI h al0 5) → ((ob h al1 1) ∧ ((ob h al0 6) ∧ wp_X6_goOnFrom h al0 xl6 (aI h al1 5) (fun hv1  => ∀ iv2 : Int32, iv2 = xl6 + 1 → (K51 hv1 al0 al1 iv2)))))))))))
set_option maxRecDepth 100000 in
theorem tb_X6_leastActs_51 {G : GG} {p : Program} {l : Launch} {e : Env} {R : Room} {s : State} {m : MethodId} {args : Array Value} {below : List Frame} {meth : Method} {c : Code} {n0 s0 : Nat} {post : AH → Int32 → Prop} (C : Cx G p R s m args meth c 7 cX6_leastActs RX6 n0 s0 5 126) (hr : meth.sig.returnType = (some .int)) {K51 : AH → Nat → Nat → Int32 → Prop} (hK51 : ∀ (h : AH) (al0 : Nat) (al1 : Nat) (xl6 : Int32), K51 h al0 al1 xl6 → AW G p l e R s m args below meth c 7 (QM G (pI post) args s below n0 s0) 51 [(0, .ref (G.1 + al0)), (1, .ref (G.1 + al1)), (6, .int xl6)] [] h) {h : AH} {al0 : Nat} {al1 : Nat} {xl6 : Int32}  (hw : wb_X6_leastActs_51 K51 h al0 al1 xl6 post) : AW G p l e R s m args below meth c 7 (QM G (pI post) args s below n0 s0) 51 [(0, .ref (G.1 + al0)), (1, .ref (G.1 + al1)), (6, .int xl6)] [] h := by
  unfold wb_X6_leastActs_51 at hw
  refine r_iload C dX6_leastActs_51 2 rfl ?_
  refine r_aload_n C dX6_leastActs_53 0 rfl ?_
  refine r_getI C fl_RX6_54_6 hw.1 (fun _ _ _ => rfl) dX6_leastActs_54 ?_
  replace hw := hw.2
  refine r_icmp_ge C dX6_leastActs_57 90 (by decide) (fun hc => ?_) (fun hc => ?_)
  · replace hw := hw.1 hc
    refine r_sub [0] rfl ?_
    exact tb_X6_leastActs_90 C hr  hw
  · replace hw := hw.2 hc
    refine r_iload C dX6_leastActs_60 2 rfl ?_
    refine r_ldc (v := 64000) C (gm5 (List.mem_of_getElem? (i := 132) rfl) rfl) dX6_leastActs_62 ?_
    refine r_icmp_ge C dX6_leastActs_64 90 (by decide) (fun hc => ?_) (fun hc => ?_)
    · replace hw := hw.1 hc
      refine r_sub [0] rfl ?_
      exact tb_X6_leastActs_90 C hr  hw
    · replace hw := hw.2 hc
      refine r_aload_n C dX6_leastActs_67 0 rfl ?_
      refine r_getI C fl_RX6_60_6 hw.1 (fun _ _ _ => rfl) dX6_leastActs_68 ?_
      replace hw := hw.2
      refine r_if_ge C dX6_leastActs_71 90 (by decide) (fun hc => ?_) (fun hc => ?_)
      · replace hw := hw.1 hc
        refine r_sub [0] rfl ?_
        exact tb_X6_leastActs_90 C hr  hw
      · replace hw := hw.2 hc
        refine r_aload_n C dX6_leastActs_74 0 rfl ?_
        refine r_iload C dX6_leastActs_75 2 rfl ?_
        refine r_aload_n C dX6_leastActs_77 1 rfl ?_
        refine r_getI C fl_RX6_102_1 hw.1 (fun _ _ _ => rfl) dX6_leastActs_78 ?_
        replace hw := hw.2
        have hob := hw.1
        replace hw := hw.2
        refine r_callV C (As := [.int xl6, .int (aI h al1 5)]) (rest := []) (c_X6_goOnFrom G h al0 xl6 (aI h al1 5) _ hw) yl_X6_goOnFrom (gm5 (List.mem_of_getElem? (i := 149) rfl) rfl) (gm5 (List.mem_of_getElem? (i := 151) rfl) rfl) (ci := 6) rfl (by decide) (gsel (List.mem_of_getElem? (i := 28) rfl)) hob (by decide) rfl (Nat.le_of_ble_eq_true rfl) dX6_leastActs_81 rfl (kV fun hv1  hw => ?_)
        obtain ⟨iv2, eiv2⟩ : ∃ q : Int32, q = xl6 + 1 := ⟨_, rfl⟩
        replace hw := hw iv2 eiv2
        refine r_iinc C dX6_leastActs_84 2 rfl (by rw [eiv2]; rfl) [(6, .int iv2), (0, .ref (G.1 + al0)), (1, .ref (G.1 + al1))] (by decide) rfl ?_
        refine r_goto C dX6_leastActs_87 51 (by decide) ?_
        refine r_sub [1, 2, 0] rfl ?_
        exact hK51 _ _ _ _ hw
def wl_X6_leastActs_51  (post : AH → Int32 → Prop) : Nat → AH → Nat → Nat → Int32 → Prop
  | 0 => fun _ _ _ _ => False
  | n + 1 => fun h al0 al1 xl6 => wb_X6_leastActs_51  (wl_X6_leastActs_51  post n) h al0 al1 xl6 post
theorem tl_X6_leastActs_51 {G : GG} {p : Program} {l : Launch} {e : Env} {R : Room} {s : State} {m : MethodId} {args : Array Value} {below : List Frame} {meth : Method} {c : Code} {n0 s0 : Nat} {post : AH → Int32 → Prop} (C : Cx G p R s m args meth c 7 cX6_leastActs RX6 n0 s0 5 126) (hr : meth.sig.returnType = (some .int))   : ∀ (n : Nat) (h : AH) (al0 : Nat) (al1 : Nat) (xl6 : Int32), wl_X6_leastActs_51  post n h al0 al1 xl6 → AW G p l e R s m args below meth c 7 (QM G (pI post) args s below n0 s0) 51 [(0, .ref (G.1 + al0)), (1, .ref (G.1 + al1)), (6, .int xl6)] [] h := by
  intro n
  induction n with
  | zero => intro h al0 al1 xl6 hw; exact hw.elim
  | succ n ih => intro h al0 al1 xl6 hw; exact tb_X6_leastActs_51 C hr  ih hw
def wp_X6_leastActs (h : AH) (a0 : Nat) (a1 : Nat) (a2 : Nat) (a3 : Nat) (x4 : Int32) (post : AH → Int32 → Prop) : Prop := (ob h a0 6) ∧ (∃ rv1, aP h a0 0 = some rv1 ∧ ((ob h rv1 0) ∧ wp_X0_list h rv1 a1 (fun hv2  => (ob hv2 a0 6) ∧ (∃ rv3, aP hv2 a0 0 = some rv3 ∧ ((ob hv2 rv3 0) ∧ wp_X0_link hv2 rv3 x4 (fun hv4  => (ob hv4 a0 6) ∧ (∃ rv5, aP hv4 a0 0 = some rv5 ∧ ((ob hv4 rv5 0) ∧ wp_X0_stateOf hv4 rv5 a2 (fun hv6 iv7 => (ob hv6 a0 6) ∧ (∃ rv8, aP hv6 a0 0 = some rv8 ∧ ((ob hv6 rv8 0) ∧ wp_X0_stateOf hv6 rv8 a3 (fun hv9 iv10 => (ob hv9 a0 6) ∧ wp_X6_begin hv9 a0 iv7 iv10 (fun hv11  => (ob hv11 a0 6) ∧ wp_X6_isNew hv11 a0 iv7 (fun hv12 iv13 => ∃ n, wl_X6_leastActs_51  post n hv12 a0 a1 0))))))))))))))
set_option maxRecDepth 100000 in
theorem c_X6_leastActs (G : GG) (h : AH) (a0 : Nat) (a1 : Nat) (a2 : Nat) (a3 : Nat) (x4 : Int32) (post : AH → Int32 → Prop) (hw : wp_X6_leastActs h a0 a1 a2 a3 x4 post) : MC G yX6_leastActs cX6_leastActs 7 (some .int) 5 126 h [.ref (G.1 + a0), .ref (G.1 + a1), .ref (G.1 + a2), .ref (G.1 + a3), .int x4] (pI post) := by
  refine MC.of (lv := [(0, .ref (G.1 + a0)), (1, .ref (G.1 + a1)), (2, .ref (G.1 + a2)), (3, .ref (G.1 + a3)), (4, .int x4)]) (by decide) (Nat.le_of_ble_eq_true rfl) rfl fun p l e R s m args below meth c C hr hnm => ?_
  unfold wp_X6_leastActs at hw
  refine r_aload_n C dX6_leastActs_0 0 rfl ?_
  have hob := hw.1
  obtain ⟨rv1, hp, hw⟩ := hw.2
  refine r_getP C fl_RX6_37_6 hob hp (fun _ _ _ => rfl) dX6_leastActs_1 ?_
  refine r_aload_n C dX6_leastActs_4 1 rfl ?_
  have hob := hw.1
  replace hw := hw.2
  refine r_callV C (As := [.ref (G.1 + a1)]) (rest := []) (c_X0_list G h rv1 a1 _ hw) yl_X0_list (gm5 (List.mem_of_getElem? (i := 88) rfl) rfl) (gm5 (List.mem_of_getElem? (i := 89) rfl) rfl) (ci := 0) rfl (by decide) (gm5 (List.mem_of_getElem? (i := 90) rfl) rfl) hob (by decide) rfl (Nat.le_of_ble_eq_true rfl) dX6_leastActs_5 rfl (kV fun hv2  hw => ?_)
  refine r_aload_n C dX6_leastActs_8 0 rfl ?_
  have hob := hw.1
  obtain ⟨rv3, hp, hw⟩ := hw.2
  refine r_getP C fl_RX6_37_6 hob hp (fun _ _ _ => rfl) dX6_leastActs_9 ?_
  refine r_iload C dX6_leastActs_12 4 rfl ?_
  have hob := hw.1
  replace hw := hw.2
  refine r_callV C (As := [.int x4]) (rest := []) (c_X0_link G hv2 rv3 x4 _ hw) yl_X0_link (gm5 (List.mem_of_getElem? (i := 109) rfl) rfl) (gm5 (List.mem_of_getElem? (i := 110) rfl) rfl) (ci := 0) rfl (by decide) (gm5 (List.mem_of_getElem? (i := 111) rfl) rfl) hob (by decide) rfl (Nat.le_of_ble_eq_true rfl) dX6_leastActs_14 rfl (kV fun hv4  hw => ?_)
  refine r_aload_n C dX6_leastActs_17 0 rfl ?_
  have hob := hw.1
  obtain ⟨rv5, hp, hw⟩ := hw.2
  refine r_getP C fl_RX6_37_6 hob hp (fun _ _ _ => rfl) dX6_leastActs_18 ?_
  refine r_aload_n C dX6_leastActs_21 2 rfl ?_
  have hob := hw.1
  replace hw := hw.2
  refine r_callV C (As := [.ref (G.1 + a2)]) (rest := []) (c_X0_stateOf G hv4 rv5 a2 _ hw) yl_X0_stateOf (gm5 (List.mem_of_getElem? (i := 119) rfl) rfl) (gm5 (List.mem_of_getElem? (i := 120) rfl) rfl) (ci := 0) rfl (by decide) (gm5 (List.mem_of_getElem? (i := 121) rfl) rfl) hob (by decide) rfl (Nat.le_of_ble_eq_true rfl) dX6_leastActs_22 rfl (kI fun hv6 iv7 hw => ?_)
  refine r_istore C dX6_leastActs_25 [(5, .int iv7), (0, .ref (G.1 + a0)), (1, .ref (G.1 + a1)), (2, .ref (G.1 + a2)), (3, .ref (G.1 + a3)), (4, .int x4)] (by decide) rfl ?_
  refine r_aload_n C dX6_leastActs_27 1 rfl ?_
  refine r_iload C dX6_leastActs_28 0 rfl ?_
  refine r_aload_n C dX6_leastActs_30 1 rfl ?_
  have hob := hw.1
  obtain ⟨rv8, hp, hw⟩ := hw.2
  refine r_getP C fl_RX6_37_6 hob hp (fun _ _ _ => rfl) dX6_leastActs_31 ?_
  refine r_aload_n C dX6_leastActs_34 4 rfl ?_
  have hob := hw.1
  replace hw := hw.2
  refine r_callV C (As := [.ref (G.1 + a3)]) (rest := [.int iv7, .ref (G.1 + a0)]) (c_X0_stateOf G hv6 rv8 a3 _ hw) yl_X0_stateOf (gm5 (List.mem_of_getElem? (i := 119) rfl) rfl) (gm5 (List.mem_of_getElem? (i := 120) rfl) rfl) (ci := 0) rfl (by decide) (gm5 (List.mem_of_getElem? (i := 121) rfl) rfl) hob (by decide) rfl (Nat.le_of_ble_eq_true rfl) dX6_leastActs_35 rfl (kI fun hv9 iv10 hw => ?_)
  have hob := hw.1
  replace hw := hw.2
  refine r_callV C (As := [.int iv7, .int iv10]) (rest := []) (c_X6_begin G hv9 a0 iv7 iv10 _ hw) yl_X6_begin (gm5 (List.mem_of_getElem? (i := 123) rfl) rfl) (gm5 (List.mem_of_getElem? (i := 125) rfl) rfl) (ci := 6) rfl (by decide) (gsel (List.mem_of_getElem? (i := 25) rfl)) hob (by decide) rfl (Nat.le_of_ble_eq_true rfl) dX6_leastActs_38 rfl (kV fun hv11  hw => ?_)
  refine r_aload_n C dX6_leastActs_41 1 rfl ?_
  refine r_iload C dX6_leastActs_42 0 rfl ?_
  have hob := hw.1
  replace hw := hw.2
  refine r_callV C (As := [.int iv7]) (rest := []) (c_X6_isNew G hv11 a0 iv7 _ hw) yl_X6_isNew (gm5 (List.mem_of_getElem? (i := 145) rfl) rfl) (gm5 (List.mem_of_getElem? (i := 147) rfl) rfl) (ci := 6) rfl (by decide) (gsel (List.mem_of_getElem? (i := 27) rfl)) hob (by decide) rfl (Nat.le_of_ble_eq_true rfl) dX6_leastActs_44 rfl (kI fun hv12 iv13 hw => ?_)
  refine r_pop C dX6_leastActs_47 rfl ?_
  refine r_iconst (v := 0) C dX6_leastActs_48 (by decide) ?_
  refine r_istore C dX6_leastActs_49 [(6, .int 0), (5, .int iv7), (0, .ref (G.1 + a0)), (1, .ref (G.1 + a1)), (2, .ref (G.1 + a2)), (3, .ref (G.1 + a3)), (4, .int x4)] (by decide) rfl ?_
  refine r_sub [2, 3, 0] rfl ?_
  obtain ⟨n, hw⟩ := hw
  exact tl_X6_leastActs_51 C hr  n _ _ _ _ hw
theorem dX10_sumUp_0 : decode cX10_sumUp 0 = .ok (.aload_n 1, 1) := by decide +kernel
theorem dX10_sumUp_1 : decode cX10_sumUp 1 = .ok (.iconst 0, 1) := by decide +kernel
theorem dX10_sumUp_2 : decode cX10_sumUp 2 = .ok (.iconst 0, 1) := by decide +kernel
theorem dX10_sumUp_3 : decode cX10_sumUp 3 = .ok (.iastore, 1) := by decide +kernel
theorem dX10_sumUp_4 : decode cX10_sumUp 4 = .ok (.iconst 0, 1) := by decide +kernel
theorem dX10_sumUp_5 : decode cX10_sumUp 5 = .ok (.istore_n 2, 1) := by decide +kernel
theorem dX10_sumUp_6 : decode cX10_sumUp 6 = .ok (.iload_n 2, 1) := by decide +kernel
theorem dX10_sumUp_7 : decode cX10_sumUp 7 = .ok (.aload_n 0, 1) := by decide +kernel
theorem dX10_sumUp_8 : decode cX10_sumUp 8 = .ok (.getfield 24, 3) := by decide +kernel
theorem dX10_sumUp_11 : decode cX10_sumUp 11 = .ok (.if_icmp .ge 54, 3) := by decide +kernel
theorem dX10_sumUp_14 : decode cX10_sumUp 14 = .ok (.iconst 1, 1) := by decide +kernel
theorem dX10_sumUp_15 : decode cX10_sumUp 15 = .ok (.iload_n 2, 1) := by decide +kernel
theorem dX10_sumUp_16 : decode cX10_sumUp 16 = .ok (.ishl, 1) := by decide +kernel
theorem dX10_sumUp_17 : decode cX10_sumUp 17 = .ok (.istore_n 3, 1) := by decide +kernel
theorem dX10_sumUp_18 : decode cX10_sumUp 18 = .ok (.iload_n 3, 1) := by decide +kernel
theorem dX10_sumUp_19 : decode cX10_sumUp 19 = .ok (.istore 4, 2) := by decide +kernel
theorem dX10_sumUp_21 : decode cX10_sumUp 21 = .ok (.iload 4, 2) := by decide +kernel
theorem dX10_sumUp_23 : decode cX10_sumUp 23 = .ok (.iconst 2, 1) := by decide +kernel
theorem dX10_sumUp_24 : decode cX10_sumUp 24 = .ok (.iload_n 3, 1) := by decide +kernel
theorem dX10_sumUp_25 : decode cX10_sumUp 25 = .ok (.imul, 1) := by decide +kernel
theorem dX10_sumUp_26 : decode cX10_sumUp 26 = .ok (.if_icmp .ge 33, 3) := by decide +kernel
theorem dX10_sumUp_29 : decode cX10_sumUp 29 = .ok (.iload 4, 2) := by decide +kernel
theorem dX10_sumUp_31 : decode cX10_sumUp 31 = .ok (.aload_n 1, 1) := by decide +kernel
theorem dX10_sumUp_32 : decode cX10_sumUp 32 = .ok (.arraylength, 1) := by decide +kernel
theorem dX10_sumUp_33 : decode cX10_sumUp 33 = .ok (.if_icmp .ge 26, 3) := by decide +kernel
theorem dX10_sumUp_36 : decode cX10_sumUp 36 = .ok (.aload_n 1, 1) := by decide +kernel
theorem dX10_sumUp_37 : decode cX10_sumUp 37 = .ok (.iload 4, 2) := by decide +kernel
theorem dX10_sumUp_39 : decode cX10_sumUp 39 = .ok (.aload_n 1, 1) := by decide +kernel
theorem dX10_sumUp_40 : decode cX10_sumUp 40 = .ok (.iload 4, 2) := by decide +kernel
theorem dX10_sumUp_42 : decode cX10_sumUp 42 = .ok (.iload_n 3, 1) := by decide +kernel
theorem dX10_sumUp_43 : decode cX10_sumUp 43 = .ok (.isub, 1) := by decide +kernel
theorem dX10_sumUp_44 : decode cX10_sumUp 44 = .ok (.iaload, 1) := by decide +kernel
theorem dX10_sumUp_45 : decode cX10_sumUp 45 = .ok (.aload_n 0, 1) := by decide +kernel
theorem dX10_sumUp_46 : decode cX10_sumUp 46 = .ok (.getfield 21, 3) := by decide +kernel
theorem dX10_sumUp_49 : decode cX10_sumUp 49 = .ok (.iload_n 2, 1) := by decide +kernel
theorem dX10_sumUp_50 : decode cX10_sumUp 50 = .ok (.iaload, 1) := by decide +kernel
theorem dX10_sumUp_51 : decode cX10_sumUp 51 = .ok (.iadd, 1) := by decide +kernel
theorem dX10_sumUp_52 : decode cX10_sumUp 52 = .ok (.iastore, 1) := by decide +kernel
theorem dX10_sumUp_53 : decode cX10_sumUp 53 = .ok (.iinc 4 1, 3) := by decide +kernel
theorem dX10_sumUp_56 : decode cX10_sumUp 56 = .ok (.goto (-35), 3) := by decide +kernel
theorem dX10_sumUp_59 : decode cX10_sumUp 59 = .ok (.iinc 2 1, 3) := by decide +kernel
theorem dX10_sumUp_62 : decode cX10_sumUp 62 = .ok (.goto (-56), 3) := by decide +kernel
theorem dX10_sumUp_65 : decode cX10_sumUp 65 = .ok (.return_, 1) := by decide +kernel
def wb_X10_sumUp_59 (K6 : AH → Nat → Nat → Int32 → Prop) (h : AH) (al0 : Nat) (al1 : Nat) (xl2 : Int32)  (post : AH → Prop) : Prop := ∀ iv1 : Int32, iv1 = xl2 + 1 → (K6 h al0 al1 iv1)
set_option maxRecDepth 100000 in
theorem tb_X10_sumUp_59 {G : GG} {p : Program} {l : Launch} {e : Env} {R : Room} {s : State} {m : MethodId} {args : Array Value} {below : List Frame} {meth : Method} {c : Code} {n0 s0 : Nat} {post : AH → Prop} (C : Cx G p R s m args meth c 5 cX10_sumUp RX10 n0 s0 0 0) (hr : meth.sig.returnType = none) {K6 : AH → Nat → Nat → Int32 → Prop} (hK6 : ∀ (h : AH) (al0 : Nat) (al1 : Nat) (xl2 : Int32), K6 h al0 al1 xl2 → AW G p l e R s m args below meth c 5 (QM G (pV post) args s below n0 s0) 6 [(0, .ref (G.1 + al0)), (1, .ref (G.1 + al1)), (2, .int xl2)] [] h) {h : AH} {al0 : Nat} {al1 : Nat} {xl2 : Int32}  (hw : wb_X10_sumUp_59 K6 h al0 al1 xl2 post) : AW G p l e R s m args below meth c 5 (QM G (pV post) args s below n0 s0) 59 [(0, .ref (G.1 + al0)), (1, .ref (G.1 + al1)), (2, .int xl2)] [] h := by
  unfold wb_X10_sumUp_59 at hw
  obtain ⟨iv1, eiv1⟩ : ∃ q : Int32, q = xl2 + 1 := ⟨_, rfl⟩
  replace hw := hw iv1 eiv1
  refine r_iinc C dX10_sumUp_59 2 rfl (by rw [eiv1]; rfl) [(2, .int iv1), (0, .ref (G.1 + al0)), (1, .ref (G.1 + al1))] (by decide) rfl ?_
  refine r_goto C dX10_sumUp_62 6 (by decide) ?_
  refine r_sub [1, 2, 0] rfl ?_
  exact hK6 _ _ _ _ hw
def wb_X10_sumUp_21 (K6 : AH → Nat → Nat → Int32 → Prop) (K21 : AH → Nat → Nat → Int32 → Int32 → Int32 → Prop) (h : AH) (al0 : Nat) (al1 : Nat) (xl2 : Int32) (xl3 : Int32) (xl4 : Int32)  (post : AH → Prop) : Prop := (((2 : Int32) * xl3) ≤ xl4 → (wb_X10_sumUp_59 K6 h al0 al1 xl2 post)) ∧ (¬ ((2 : Int32) * xl3) ≤ xl4 → (((aK h al1 = 12 ∨ aK h al1 = 13 ∨ aK h al1 = 14) ∧ al1 < aN h) ∧ (((nI (aL h al1)) ≤ xl4 → (wb_X10_sumUp_59 K6 h al0 al1 xl2 post)) ∧ (¬ (nI (aL h al1)) ≤ xl4 → ((ob h al1 13) ∧ ((vp_in (xl4 - xl3) (aL h al1)) ∧ ((ob h al0 9) ∧ (∃ rv1, aP h al0 4 = some rv1 ∧ ((ob h rv1 13) ∧ ((vp_in xl2 (aL h rv1)) ∧ ((ob h al1 13) ∧ ((vp_in xl4 (aL h al1)) ∧ (∀ hv2 : AH, hv2 = hI h al1 xl4.toNatClampNeg ((aI h al1 (xl4 - xl3).toNatClampNeg) + (aI h rv1 xl2.toNatClampNeg)) → (∀ iv3 : Int32, iv3 = xl4 + 1 → (K21 hv2 al0 al1 xl2 xl3 iv3)))))))))))))))
set_option maxRecDepth 100000 in
theorem tb_X10_sumUp_21 {G : GG} {p : Program} {l : Launch} {e : Env} {R : Room} {s : State} {m : MethodId} {args : Array Value} {below : List Frame} {meth : Method} {c : Code} {n0 s0 : Nat} {post : AH → Prop} (C : Cx G p R s m args meth c 5 cX10_sumUp RX10 n0 s0 0 0) (hr : meth.sig.returnType = none) {K6 : AH → Nat → Nat → Int32 → Prop} {K21 : AH → Nat → Nat → Int32 → Int32 → Int32 → Prop} (hK6 : ∀ (h : AH) (al0 : Nat) (al1 : Nat) (xl2 : Int32), K6 h al0 al1 xl2 → AW G p l e R s m args below meth c 5 (QM G (pV post) args s below n0 s0) 6 [(0, .ref (G.1 + al0)), (1, .ref (G.1 + al1)), (2, .int xl2)] [] h) (hK21 : ∀ (h : AH) (al0 : Nat) (al1 : Nat) (xl2 : Int32) (xl3 : Int32) (xl4 : Int32), K21 h al0 al1 xl2 xl3 xl4 → AW G p l e R s m args below meth c 5 (QM G (pV post) args s below n0 s0) 21 [(0, .ref (G.1 + al0)), (1, .ref (G.1 + al1)), (2, .int xl2), (3, .int xl3), (4, .int xl4)] [] h) {h : AH} {al0 : Nat} {al1 : Nat} {xl2 : Int32} {xl3 : Int32} {xl4 : Int32}  (hw : wb_X10_sumUp_21 K6 K21 h al0 al1 xl2 xl3 xl4 post) : AW G p l e R s m args below meth c 5 (QM G (pV post) args s below n0 s0) 21 [(0, .ref (G.1 + al0)), (1, .ref (G.1 + al1)), (2, .int xl2), (3, .int xl3), (4, .int xl4)] [] h := by
  unfold wb_X10_sumUp_21 at hw
  refine r_iload C dX10_sumUp_21 4 rfl ?_
  refine r_iconst (v := 2) C dX10_sumUp_23 (by decide) ?_
  refine r_iload_n C dX10_sumUp_24 3 rfl ?_
  refine r_imul C dX10_sumUp_25 ?_
  refine r_icmp_ge C dX10_sumUp_26 59 (by decide) (fun hc => ?_) (fun hc => ?_)
  · replace hw := hw.1 hc
    refine r_sub [0, 1, 2] rfl ?_
    exact tb_X10_sumUp_59 C hr hK6 hw
  · replace hw := hw.2 hc
    refine r_iload C dX10_sumUp_29 4 rfl ?_
    refine r_aload_n C dX10_sumUp_31 1 rfl ?_
    refine r_alen C hw.1 dX10_sumUp_32 ?_
    replace hw := hw.2
    refine r_icmp_ge C dX10_sumUp_33 59 (by decide) (fun hc => ?_) (fun hc => ?_)
    · replace hw := hw.1 hc
      refine r_sub [0, 1, 2] rfl ?_
      exact tb_X10_sumUp_59 C hr hK6 hw
    · replace hw := hw.2 hc
      refine r_aload_n C dX10_sumUp_36 1 rfl ?_
      refine r_iload C dX10_sumUp_37 4 rfl ?_
      refine r_aload_n C dX10_sumUp_39 1 rfl ?_
      refine r_iload C dX10_sumUp_40 4 rfl ?_
      refine r_iload_n C dX10_sumUp_42 3 rfl ?_
      refine r_isub C dX10_sumUp_43 ?_
      refine r_iaload C hw.1 hw.2.1 dX10_sumUp_44 ?_
      replace hw := hw.2.2
      refine r_aload_n C dX10_sumUp_45 0 rfl ?_
      have hob := hw.1
      obtain ⟨rv1, hp, hw⟩ := hw.2
      refine r_getP C fl_RX10_21_9 hob hp (fun _ _ _ => rfl) dX10_sumUp_46 ?_
      refine r_iload_n C dX10_sumUp_49 2 rfl ?_
      refine r_iaload C hw.1 hw.2.1 dX10_sumUp_50 ?_
      replace hw := hw.2.2
      refine r_iadd C dX10_sumUp_51 ?_
      refine r_iastore C hw.1 hw.2.1 dX10_sumUp_52 ?_
      replace hw := hw.2.2
      refine r_toph fun hv2 ehv2 => ?_
      replace hw := hw hv2 ehv2
      obtain ⟨iv3, eiv3⟩ : ∃ q : Int32, q = xl4 + 1 := ⟨_, rfl⟩
      replace hw := hw iv3 eiv3
      refine r_iinc C dX10_sumUp_53 4 rfl (by rw [eiv3]; rfl) [(4, .int iv3), (0, .ref (G.1 + al0)), (1, .ref (G.1 + al1)), (2, .int xl2), (3, .int xl3)] (by decide) rfl ?_
      refine r_goto C dX10_sumUp_56 21 (by decide) ?_
      refine r_sub [1, 2, 3, 4, 0] rfl ?_
      exact hK21 _ _ _ _ _ _ hw
def wl_X10_sumUp_21 (K6 : AH → Nat → Nat → Int32 → Prop) (post : AH → Prop) : Nat → AH → Nat → Nat → Int32 → Int32 → Int32 → Prop
  | 0 => fun _ _ _ _ _ _ => False
  | n + 1 => fun h al0 al1 xl2 xl3 xl4 => wb_X10_sumUp_21 K6 (wl_X10_sumUp_21 K6 post n) h al0 al1 xl2 xl3 xl4 post
theorem tl_X10_sumUp_21 {G : GG} {p : Program} {l : Launch} {e : Env} {R : Room} {s : State} {m : MethodId} {args : Array Value} {below : List Frame} {meth : Method} {c : Code} {n0 s0 : Nat} {post : AH → Prop} (C : Cx G p R s m args meth c 5 cX10_sumUp RX10 n0 s0 0 0) (hr : meth.sig.returnType = none) {K6 : AH → Nat → Nat → Int32 → Prop} (hK6 : ∀ (h : AH) (al0 : Nat) (al1 : Nat) (xl2 : Int32), K6 h al0 al1 xl2 → AW G p l e R s m args below meth c 5 (QM G (pV post) args s below n0 s0) 6 [(0, .ref (G.1 + al0)), (1, .ref (G.1 + al1)), (2, .int xl2)] [] h) : ∀ (n : Nat) (h : AH) (al0 : Nat) (al1 : Nat) (xl2 : Int32) (xl3 : Int32) (xl4 : Int32), wl_X10_sumUp_21 K6 post n h al0 al1 xl2 xl3 xl4 → AW G p l e R s m args below meth c 5 (QM G (pV post) args s below n0 s0) 21 [(0, .ref (G.1 + al0)), (1, .ref (G.1 + al1)), (2, .int xl2), (3, .int xl3), (4, .int xl4)] [] h := by
  intro n
  induction n with
  | zero => intro h al0 al1 xl2 xl3 xl4 hw; exact hw.elim
  | succ n ih => intro h al0 al1 xl2 xl3 xl4 hw; exact tb_X10_sumUp_21 C hr hK6 ih hw
def wb_X10_sumUp_6 (K6 : AH → Nat → Nat → Int32 → Prop) (h : AH) (al0 : Nat) (al1 : Nat) (xl2 : Int32)  (post : AH → Prop) : Prop := (ob h al0 9) ∧ (((aI h al0 0) ≤ xl2 → (post h)) ∧ (¬ (aI h al0 0) ≤ xl2 → (∀ iv1 : Int32, iv1 = (1 : Int32) <<< (xl2 &&& 31) → (∃ n, wl_X10_sumUp_21 K6 post n h al0 al1 xl2 iv1 iv1))))
set_option maxRecDepth 100000 in
theorem tb_X10_sumUp_6 {G : GG} {p : Program} {l : Launch} {e : Env} {R : Room} {s : State} {m : MethodId} {args : Array Value} {below : List Frame} {meth : Method} {c : Code} {n0 s0 : Nat} {post : AH → Prop} (C : Cx G p R s m args meth c 5 cX10_sumUp RX10 n0 s0 0 0) (hr : meth.sig.returnType = none) {K6 : AH → Nat → Nat → Int32 → Prop} (hK6 : ∀ (h : AH) (al0 : Nat) (al1 : Nat) (xl2 : Int32), K6 h al0 al1 xl2 → AW G p l e R s m args below meth c 5 (QM G (pV post) args s below n0 s0) 6 [(0, .ref (G.1 + al0)), (1, .ref (G.1 + al1)), (2, .int xl2)] [] h) {h : AH} {al0 : Nat} {al1 : Nat} {xl2 : Int32}  (hw : wb_X10_sumUp_6 K6 h al0 al1 xl2 post) : AW G p l e R s m args below meth c 5 (QM G (pV post) args s below n0 s0) 6 [(0, .ref (G.1 + al0)), (1, .ref (G.1 + al1)), (2, .int xl2)] [] h := by
  unfold wb_X10_sumUp_6 at hw
  refine r_iload_n C dX10_sumUp_6 2 rfl ?_
  refine r_aload_n C dX10_sumUp_7 0 rfl ?_
  refine r_getI C fl_RX10_24_9 hw.1 (fun _ _ _ => rfl) dX10_sumUp_8 ?_
  replace hw := hw.2
  refine r_icmp_ge C dX10_sumUp_11 65 (by decide) (fun hc => ?_) (fun hc => ?_)
  · replace hw := hw.1 hc
    exact r_vret C hr dX10_sumUp_65 hw
  · replace hw := hw.2 hc
    refine r_iconst (v := 1) C dX10_sumUp_14 (by decide) ?_
    refine r_iload_n C dX10_sumUp_15 2 rfl ?_
    refine r_ishl C dX10_sumUp_16 ?_
    refine r_topi fun iv1 eiv1 => ?_
    replace hw := hw iv1 eiv1
    refine r_istore_n C dX10_sumUp_17 [(3, .int iv1), (0, .ref (G.1 + al0)), (1, .ref (G.1 + al1)), (2, .int xl2)] (by decide) rfl ?_
    refine r_iload_n C dX10_sumUp_18 0 rfl ?_
    refine r_istore C dX10_sumUp_19 [(4, .int iv1), (3, .int iv1), (0, .ref (G.1 + al0)), (1, .ref (G.1 + al1)), (2, .int xl2)] (by decide) rfl ?_
    refine r_sub [2, 3, 4, 1, 0] rfl ?_
    obtain ⟨n, hw⟩ := hw
    exact tl_X10_sumUp_21 C hr hK6 n _ _ _ _ _ _ hw
def wl_X10_sumUp_6  (post : AH → Prop) : Nat → AH → Nat → Nat → Int32 → Prop
  | 0 => fun _ _ _ _ => False
  | n + 1 => fun h al0 al1 xl2 => wb_X10_sumUp_6  (wl_X10_sumUp_6  post n) h al0 al1 xl2 post
theorem tl_X10_sumUp_6 {G : GG} {p : Program} {l : Launch} {e : Env} {R : Room} {s : State} {m : MethodId} {args : Array Value} {below : List Frame} {meth : Method} {c : Code} {n0 s0 : Nat} {post : AH → Prop} (C : Cx G p R s m args meth c 5 cX10_sumUp RX10 n0 s0 0 0) (hr : meth.sig.returnType = none)   : ∀ (n : Nat) (h : AH) (al0 : Nat) (al1 : Nat) (xl2 : Int32), wl_X10_sumUp_6  post n h al0 al1 xl2 → AW G p l e R s m args below meth c 5 (QM G (pV post) args s below n0 s0) 6 [(0, .ref (G.1 + al0)), (1, .ref (G.1 + al1)), (2, .int xl2)] [] h := by
  intro n
  induction n with
  | zero => intro h al0 al1 xl2 hw; exact hw.elim
  | succ n ih => intro h al0 al1 xl2 hw; exact tb_X10_sumUp_6 C hr  ih hw
def wp_X10_sumUp (h : AH) (a0 : Nat) (a1 : Nat) (post : AH → Prop) : Prop := (ob h a1 13) ∧ ((vp_in 0 (aL h a1)) ∧ (∀ hv1 : AH, hv1 = hI h a1 (0 : Int32).toNatClampNeg 0 → (∃ n, wl_X10_sumUp_6  post n hv1 a0 a1 0)))
set_option maxRecDepth 100000 in
theorem c_X10_sumUp (G : GG) (h : AH) (a0 : Nat) (a1 : Nat) (post : AH → Prop) (hw : wp_X10_sumUp h a0 a1 post) : MC G yX10_sumUp cX10_sumUp 5 none 0 0 h [.ref (G.1 + a0), .ref (G.1 + a1)] (pV post) := by
  refine MC.of (lv := [(0, .ref (G.1 + a0)), (1, .ref (G.1 + a1))]) (by decide) (Nat.le_of_ble_eq_true rfl) rfl fun p l e R s m args below meth c C hr hnm => ?_
  unfold wp_X10_sumUp at hw
  refine r_aload_n C dX10_sumUp_0 1 rfl ?_
  refine r_iconst (v := 0) C dX10_sumUp_1 (by decide) ?_
  refine r_iconst (v := 0) C dX10_sumUp_2 (by decide) ?_
  refine r_iastore C hw.1 hw.2.1 dX10_sumUp_3 ?_
  replace hw := hw.2.2
  refine r_toph fun hv1 ehv1 => ?_
  replace hw := hw hv1 ehv1
  refine r_iconst (v := 0) C dX10_sumUp_4 (by decide) ?_
  refine r_istore_n C dX10_sumUp_5 [(2, .int 0), (0, .ref (G.1 + a0)), (1, .ref (G.1 + a1))] (by decide) rfl ?_
  refine r_sub [1, 2, 0] rfl ?_
  obtain ⟨n, hw⟩ := hw
  exact tl_X10_sumUp_6 C hr  n _ _ _ _ hw
theorem dX6_mostMet_0 : decode cX6_mostMet 0 = .ok (.aload_n 0, 1) := by decide +kernel
theorem dX6_mostMet_1 : decode cX6_mostMet 1 = .ok (.getfield 37, 3) := by decide +kernel
theorem dX6_mostMet_4 : decode cX6_mostMet 4 = .ok (.aload_n 1, 1) := by decide +kernel
theorem dX6_mostMet_5 : decode cX6_mostMet 5 = .ok (.invokevirtual 83, 3) := by decide +kernel
theorem dX6_mostMet_8 : decode cX6_mostMet 8 = .ok (.aload_n 0, 1) := by decide +kernel
theorem dX6_mostMet_9 : decode cX6_mostMet 9 = .ok (.getfield 37, 3) := by decide +kernel
theorem dX6_mostMet_12 : decode cX6_mostMet 12 = .ok (.iload 4, 2) := by decide +kernel
theorem dX6_mostMet_14 : decode cX6_mostMet 14 = .ok (.invokevirtual 86, 3) := by decide +kernel
theorem dX6_mostMet_17 : decode cX6_mostMet 17 = .ok (.aload_n 0, 1) := by decide +kernel
theorem dX6_mostMet_18 : decode cX6_mostMet 18 = .ok (.getfield 37, 3) := by decide +kernel
theorem dX6_mostMet_21 : decode cX6_mostMet 21 = .ok (.aload_n 2, 1) := by decide +kernel
theorem dX6_mostMet_22 : decode cX6_mostMet 22 = .ok (.invokevirtual 90, 3) := by decide +kernel
theorem dX6_mostMet_25 : decode cX6_mostMet 25 = .ok (.istore 5, 2) := by decide +kernel
theorem dX6_mostMet_27 : decode cX6_mostMet 27 = .ok (.aload_n 0, 1) := by decide +kernel
theorem dX6_mostMet_28 : decode cX6_mostMet 28 = .ok (.iload 5, 2) := by decide +kernel
theorem dX6_mostMet_30 : decode cX6_mostMet 30 = .ok (.iconst (-1), 1) := by decide +kernel
theorem dX6_mostMet_31 : decode cX6_mostMet 31 = .ok (.invokevirtual 94, 3) := by decide +kernel
theorem dX6_mostMet_34 : decode cX6_mostMet 34 = .ok (.aload_n 0, 1) := by decide +kernel
theorem dX6_mostMet_35 : decode cX6_mostMet 35 = .ok (.iload 5, 2) := by decide +kernel
theorem dX6_mostMet_37 : decode cX6_mostMet 37 = .ok (.invokevirtual 98, 3) := by decide +kernel
theorem dX6_mostMet_40 : decode cX6_mostMet 40 = .ok (.pop, 1) := by decide +kernel
theorem dX6_mostMet_41 : decode cX6_mostMet 41 = .ok (.aload_n 0, 1) := by decide +kernel
theorem dX6_mostMet_42 : decode cX6_mostMet 42 = .ok (.getfield 37, 3) := by decide +kernel
theorem dX6_mostMet_45 : decode cX6_mostMet 45 = .ok (.invokevirtual 131, 3) := by decide +kernel
theorem dX6_mostMet_48 : decode cX6_mostMet 48 = .ok (.aload_n 1, 1) := by decide +kernel
theorem dX6_mostMet_49 : decode cX6_mostMet 49 = .ok (.getfield 134, 3) := by decide +kernel
theorem dX6_mostMet_52 : decode cX6_mostMet 52 = .ok (.aload_n 0, 1) := by decide +kernel
theorem dX6_mostMet_53 : decode cX6_mostMet 53 = .ok (.getfield 20, 3) := by decide +kernel
theorem dX6_mostMet_56 : decode cX6_mostMet 56 = .ok (.invokevirtual 138, 3) := by decide +kernel
theorem dX6_mostMet_59 : decode cX6_mostMet 59 = .ok (.iconst 1, 1) := by decide +kernel
theorem dX6_mostMet_60 : decode cX6_mostMet 60 = .ok (.aload_n 1, 1) := by decide +kernel
theorem dX6_mostMet_61 : decode cX6_mostMet 61 = .ok (.getfield 134, 3) := by decide +kernel
theorem dX6_mostMet_64 : decode cX6_mostMet 64 = .ok (.getfield 144, 3) := by decide +kernel
theorem dX6_mostMet_67 : decode cX6_mostMet 67 = .ok (.ishl, 1) := by decide +kernel
theorem dX6_mostMet_68 : decode cX6_mostMet 68 = .ok (.iconst 1, 1) := by decide +kernel
theorem dX6_mostMet_69 : decode cX6_mostMet 69 = .ok (.isub, 1) := by decide +kernel
theorem dX6_mostMet_70 : decode cX6_mostMet 70 = .ok (.istore 6, 2) := by decide +kernel
theorem dX6_mostMet_72 : decode cX6_mostMet 72 = .ok (.iconst (-1), 1) := by decide +kernel
theorem dX6_mostMet_73 : decode cX6_mostMet 73 = .ok (.istore 7, 2) := by decide +kernel
theorem dX6_mostMet_75 : decode cX6_mostMet 75 = .ok (.iconst 0, 1) := by decide +kernel
theorem dX6_mostMet_76 : decode cX6_mostMet 76 = .ok (.istore 8, 2) := by decide +kernel
theorem dX6_mostMet_78 : decode cX6_mostMet 78 = .ok (.iconst 0, 1) := by decide +kernel
theorem dX6_mostMet_79 : decode cX6_mostMet 79 = .ok (.istore 9, 2) := by decide +kernel
theorem dX6_mostMet_81 : decode cX6_mostMet 81 = .ok (.iconst 1, 1) := by decide +kernel
theorem dX6_mostMet_82 : decode cX6_mostMet 82 = .ok (.istore 10, 2) := by decide +kernel
theorem dX6_mostMet_84 : decode cX6_mostMet 84 = .ok (.iconst 0, 1) := by decide +kernel
theorem dX6_mostMet_85 : decode cX6_mostMet 85 = .ok (.istore 11, 2) := by decide +kernel
theorem dX6_mostMet_87 : decode cX6_mostMet 87 = .ok (.iload 11, 2) := by decide +kernel
theorem dX6_mostMet_89 : decode cX6_mostMet 89 = .ok (.aload_n 0, 1) := by decide +kernel
theorem dX6_mostMet_90 : decode cX6_mostMet 90 = .ok (.getfield 54, 3) := by decide +kernel
theorem dX6_mostMet_93 : decode cX6_mostMet 93 = .ok (.if_icmp .ge 100, 3) := by decide +kernel
theorem dX6_mostMet_96 : decode cX6_mostMet 96 = .ok (.iload 11, 2) := by decide +kernel
theorem dX6_mostMet_98 : decode cX6_mostMet 98 = .ok (.ldc 67, 2) := by decide +kernel
theorem dX6_mostMet_100 : decode cX6_mostMet 100 = .ok (.if_icmp .ge 93, 3) := by decide +kernel
theorem dX6_mostMet_103 : decode cX6_mostMet 103 = .ok (.iload 7, 2) := by decide +kernel
theorem dX6_mostMet_105 : decode cX6_mostMet 105 = .ok (.aload_n 0, 1) := by decide +kernel
theorem dX6_mostMet_106 : decode cX6_mostMet 106 = .ok (.getfield 20, 3) := by decide +kernel
theorem dX6_mostMet_109 : decode cX6_mostMet 109 = .ok (.iload 6, 2) := by decide +kernel
theorem dX6_mostMet_111 : decode cX6_mostMet 111 = .ok (.iaload, 1) := by decide +kernel
theorem dX6_mostMet_112 : decode cX6_mostMet 112 = .ok (.if_icmp .ge 81, 3) := by decide +kernel
theorem dX6_mostMet_115 : decode cX6_mostMet 115 = .ok (.iload 11, 2) := by decide +kernel
theorem dX6_mostMet_117 : decode cX6_mostMet 117 = .ok (.iload 10, 2) := by decide +kernel
theorem dX6_mostMet_119 : decode cX6_mostMet 119 = .ok (.if_icmp .ne 12, 3) := by decide +kernel
theorem dX6_mostMet_122 : decode cX6_mostMet 122 = .ok (.iinc 9 1, 3) := by decide +kernel
theorem dX6_mostMet_125 : decode cX6_mostMet 125 = .ok (.aload_n 0, 1) := by decide +kernel
theorem dX6_mostMet_126 : decode cX6_mostMet 126 = .ok (.getfield 54, 3) := by decide +kernel
theorem dX6_mostMet_129 : decode cX6_mostMet 129 = .ok (.istore 10, 2) := by decide +kernel
theorem dX6_mostMet_131 : decode cX6_mostMet 131 = .ok (.aload_n 0, 1) := by decide +kernel
theorem dX6_mostMet_132 : decode cX6_mostMet 132 = .ok (.getfield 20, 3) := by decide +kernel
theorem dX6_mostMet_135 : decode cX6_mostMet 135 = .ok (.iload 6, 2) := by decide +kernel
theorem dX6_mostMet_137 : decode cX6_mostMet 137 = .ok (.aload_n 0, 1) := by decide +kernel
theorem dX6_mostMet_138 : decode cX6_mostMet 138 = .ok (.getfield 37, 3) := by decide +kernel
theorem dX6_mostMet_141 : decode cX6_mostMet 141 = .ok (.aload_n 0, 1) := by decide +kernel
theorem dX6_mostMet_142 : decode cX6_mostMet 142 = .ok (.iload 11, 2) := by decide +kernel
theorem dX6_mostMet_144 : decode cX6_mostMet 144 = .ok (.invokevirtual 113, 3) := by decide +kernel
theorem dX6_mostMet_147 : decode cX6_mostMet 147 = .ok (.invokevirtual 147, 3) := by decide +kernel
theorem dX6_mostMet_150 : decode cX6_mostMet 150 = .ok (.iconst (-1), 1) := by decide +kernel
theorem dX6_mostMet_151 : decode cX6_mostMet 151 = .ok (.ixor, 1) := by decide +kernel
theorem dX6_mostMet_152 : decode cX6_mostMet 152 = .ok (.iand, 1) := by decide +kernel
theorem dX6_mostMet_153 : decode cX6_mostMet 153 = .ok (.iaload, 1) := by decide +kernel
theorem dX6_mostMet_154 : decode cX6_mostMet 154 = .ok (.istore 12, 2) := by decide +kernel
theorem dX6_mostMet_156 : decode cX6_mostMet 156 = .ok (.iload 12, 2) := by decide +kernel
theorem dX6_mostMet_158 : decode cX6_mostMet 158 = .ok (.iload 7, 2) := by decide +kernel
theorem dX6_mostMet_160 : decode cX6_mostMet 160 = .ok (.if_icmp .le 11, 3) := by decide +kernel
theorem dX6_mostMet_163 : decode cX6_mostMet 163 = .ok (.iload 12, 2) := by decide +kernel
theorem dX6_mostMet_165 : decode cX6_mostMet 165 = .ok (.istore 7, 2) := by decide +kernel
theorem dX6_mostMet_167 : decode cX6_mostMet 167 = .ok (.iload 11, 2) := by decide +kernel
theorem dX6_mostMet_169 : decode cX6_mostMet 169 = .ok (.istore 8, 2) := by decide +kernel
theorem dX6_mostMet_171 : decode cX6_mostMet 171 = .ok (.iload 9, 2) := by decide +kernel
theorem dX6_mostMet_173 : decode cX6_mostMet 173 = .ok (.iload_n 3, 1) := by decide +kernel
theorem dX6_mostMet_174 : decode cX6_mostMet 174 = .ok (.if_icmp .ge 13, 3) := by decide +kernel
theorem dX6_mostMet_177 : decode cX6_mostMet 177 = .ok (.aload_n 0, 1) := by decide +kernel
theorem dX6_mostMet_178 : decode cX6_mostMet 178 = .ok (.iload 11, 2) := by decide +kernel
theorem dX6_mostMet_180 : decode cX6_mostMet 180 = .ok (.aload_n 1, 1) := by decide +kernel
theorem dX6_mostMet_181 : decode cX6_mostMet 181 = .ok (.getfield 102, 3) := by decide +kernel
theorem dX6_mostMet_184 : decode cX6_mostMet 184 = .ok (.invokevirtual 107, 3) := by decide +kernel
theorem dX6_mostMet_187 : decode cX6_mostMet 187 = .ok (.iinc 11 1, 3) := by decide +kernel
theorem dX6_mostMet_190 : decode cX6_mostMet 190 = .ok (.goto (-103), 3) := by decide +kernel
theorem dX6_mostMet_193 : decode cX6_mostMet 193 = .ok (.aload_n 0, 1) := by decide +kernel
theorem dX6_mostMet_194 : decode cX6_mostMet 194 = .ok (.iload 8, 2) := by decide +kernel
theorem dX6_mostMet_196 : decode cX6_mostMet 196 = .ok (.invokevirtual 110, 3) := by decide +kernel
theorem dX6_mostMet_199 : decode cX6_mostMet 199 = .ok (.pop, 1) := by decide +kernel
theorem dX6_mostMet_200 : decode cX6_mostMet 200 = .ok (.iload 7, 2) := by decide +kernel
theorem dX6_mostMet_202 : decode cX6_mostMet 202 = .ok (.ireturn, 1) := by decide +kernel
def wb_X6_mostMet_193  (h : AH) (al0 : Nat) (xl7 : Int32) (xl8 : Int32)  (post : AH → Int32 → Prop) : Prop := (ob h al0 6) ∧ wp_X6_trace h al0 xl8 (fun hv1 iv2 => post hv1 xl7)
set_option maxRecDepth 100000 in
theorem tb_X6_mostMet_193 {G : GG} {p : Program} {l : Launch} {e : Env} {R : Room} {s : State} {m : MethodId} {args : Array Value} {below : List Frame} {meth : Method} {c : Code} {n0 s0 : Nat} {post : AH → Int32 → Prop} (C : Cx G p R s m args meth c 13 cX6_mostMet RX6 n0 s0 5 126) (hr : meth.sig.returnType = (some .int))   {h : AH} {al0 : Nat} {xl7 : Int32} {xl8 : Int32}  (hw : wb_X6_mostMet_193  h al0 xl7 xl8 post) : AW G p l e R s m args below meth c 13 (QM G (pI post) args s below n0 s0) 193 [(0, .ref (G.1 + al0)), (7, .int xl7), (8, .int xl8)] [] h := by
  unfold wb_X6_mostMet_193 at hw
  refine r_aload_n C dX6_mostMet_193 0 rfl ?_
  refine r_iload C dX6_mostMet_194 2 rfl ?_
  have hob := hw.1
  replace hw := hw.2
  refine r_callV C (As := [.int xl8]) (rest := []) (c_X6_trace G h al0 xl8 _ hw) yl_X6_trace (gm5 (List.mem_of_getElem? (i := 170) rfl) rfl) (gm5 (List.mem_of_getElem? (i := 172) rfl) rfl) (ci := 6) rfl (by decide) (gsel (List.mem_of_getElem? (i := 30) rfl)) hob (by decide) rfl (Nat.le_of_ble_eq_true rfl) dX6_mostMet_196 rfl (kI fun hv1 iv2 hw => ?_)
  refine r_pop C dX6_mostMet_199 rfl ?_
  refine r_iload C dX6_mostMet_200 1 rfl ?_
  exact r_iret C hr dX6_mostMet_202 hw
def wb_X6_mostMet_187 (K87 : AH → Nat → Nat → Int32 → Int32 → Int32 → Int32 → Int32 → Int32 → Int32 → Prop) (h : AH) (al0 : Nat) (al1 : Nat) (xl3 : Int32) (xl6 : Int32) (xl7 : Int32) (xl8 : Int32) (xl9 : Int32) (xl10 : Int32) (xl11 : Int32)  (post : AH → Int32 → Prop) : Prop := ∀ iv1 : Int32, iv1 = xl11 + 1 → (K87 h al0 al1 xl3 xl6 xl7 xl8 xl9 xl10 iv1)
set_option maxRecDepth 100000 in
theorem tb_X6_mostMet_187 {G : GG} {p : Program} {l : Launch} {e : Env} {R : Room} {s : State} {m : MethodId} {args : Array Value} {below : List Frame} {meth : Method} {c : Code} {n0 s0 : Nat} {post : AH → Int32 → Prop} (C : Cx G p R s m args meth c 13 cX6_mostMet RX6 n0 s0 5 126) (hr : meth.sig.returnType = (some .int)) {K87 : AH → Nat → Nat → Int32 → Int32 → Int32 → Int32 → Int32 → Int32 → Int32 → Prop} (hK87 : ∀ (h : AH) (al0 : Nat) (al1 : Nat) (xl3 : Int32) (xl6 : Int32) (xl7 : Int32) (xl8 : Int32) (xl9 : Int32) (xl10 : Int32) (xl11 : Int32), K87 h al0 al1 xl3 xl6 xl7 xl8 xl9 xl10 xl11 → AW G p l e R s m args below meth c 13 (QM G (pI post) args s below n0 s0) 87 [(0, .ref (G.1 + al0)), (1, .ref (G.1 + al1)), (3, .int xl3), (6, .int xl6), (7, .int xl7), (8, .int xl8), (9, .int xl9), (10, .int xl10), (11, .int xl11)] [] h) {h : AH} {al0 : Nat} {al1 : Nat} {xl3 : Int32} {xl6 : Int32} {xl7 : Int32} {xl8 : Int32} {xl9 : Int32} {xl10 : Int32} {xl11 : Int32}  (hw : wb_X6_mostMet_187 K87 h al0 al1 xl3 xl6 xl7 xl8 xl9 xl10 xl11 post) : AW G p l e R s m args below meth c 13 (QM G (pI post) args s below n0 s0) 187 [(0, .ref (G.1 + al0)), (1, .ref (G.1 + al1)), (3, .int xl3), (6, .int xl6), (7, .int xl7), (8, .int xl8), (9, .int xl9), (10, .int xl10), (11, .int xl11)] [] h := by
  unfold wb_X6_mostMet_187 at hw
  obtain ⟨iv1, eiv1⟩ : ∃ q : Int32, q = xl11 + 1 := ⟨_, rfl⟩
  replace hw := hw iv1 eiv1
  refine r_iinc C dX6_mostMet_187 8 rfl (by rw [eiv1]; rfl) [(11, .int iv1), (0, .ref (G.1 + al0)), (1, .ref (G.1 + al1)), (3, .int xl3), (6, .int xl6), (7, .int xl7), (8, .int xl8), (9, .int xl9), (10, .int xl10)] (by decide) rfl ?_
  refine r_goto C dX6_mostMet_190 87 (by decide) ?_
  refine r_sub [1, 2, 3, 4, 5, 6, 7, 8, 0] rfl ?_
  exact hK87 _ _ _ _ _ _ _ _ _ _ hw
def wb_X6_mostMet_171 (K87 : AH → Nat → Nat → Int32 → Int32 → Int32 → Int32 → Int32 → Int32 → Int32 → Prop) (h : AH) (al0 : Nat) (al1 : Nat) (xl3 : Int32) (xl6 : Int32) (xl7 : Int32) (xl8 : Int32) (xl9 : Int32) (xl10 : Int32) (xl11 : Int32)  (post : AH → Int32 → Prop) : Prop := (xl3 ≤ xl9 → (wb_X6_mostMet_187 K87 h al0 al1 xl3 xl6 xl7 xl8 xl9 xl10 xl11 post)) ∧ (¬ xl3 ≤ xl9 → ((ob h al1 1) ∧ ((ob h al0 6) ∧ wp_X6_goOnFrom h al0 xl11 (aI h al1 5) (fun hv1  => wb_X6_mostMet_187 K87 hv1 al0 al1 xl3 xl6 xl7 xl8 xl9 xl10 xl11 post))))
set_option maxRecDepth 100000 in
theorem tb_X6_mostMet_171 {G : GG} {p : Program} {l : Launch} {e : Env} {R : Room} {s : State} {m : MethodId} {args : Array Value} {below : List Frame} {meth : Method} {c : Code} {n0 s0 : Nat} {post : AH → Int32 → Prop} (C : Cx G p R s m args meth c 13 cX6_mostMet RX6 n0 s0 5 126) (hr : meth.sig.returnType = (some .int)) {K87 : AH → Nat → Nat → Int32 → Int32 → Int32 → Int32 → Int32 → Int32 → Int32 → Prop} (hK87 : ∀ (h : AH) (al0 : Nat) (al1 : Nat) (xl3 : Int32) (xl6 : Int32) (xl7 : Int32) (xl8 : Int32) (xl9 : Int32) (xl10 : Int32) (xl11 : Int32), K87 h al0 al1 xl3 xl6 xl7 xl8 xl9 xl10 xl11 → AW G p l e R s m args below meth c 13 (QM G (pI post) args s below n0 s0) 87 [(0, .ref (G.1 + al0)), (1, .ref (G.1 + al1)), (3, .int xl3), (6, .int xl6), (7, .int xl7), (8, .int xl8), (9, .int xl9), (10, .int xl10), (11, .int xl11)] [] h) {h : AH} {al0 : Nat} {al1 : Nat} {xl3 : Int32} {xl6 : Int32} {xl7 : Int32} {xl8 : Int32} {xl9 : Int32} {xl10 : Int32} {xl11 : Int32}  (hw : wb_X6_mostMet_171 K87 h al0 al1 xl3 xl6 xl7 xl8 xl9 xl10 xl11 post) : AW G p l e R s m args below meth c 13 (QM G (pI post) args s below n0 s0) 171 [(0, .ref (G.1 + al0)), (1, .ref (G.1 + al1)), (3, .int xl3), (6, .int xl6), (7, .int xl7), (8, .int xl8), (9, .int xl9), (10, .int xl10), (11, .int xl11)] [] h := by
  unfold wb_X6_mostMet_171 at hw
  refine r_iload C dX6_mostMet_171 6 rfl ?_
  refine r_iload_n C dX6_mostMet_173 2 rfl ?_
  refine r_icmp_ge C dX6_mostMet_174 187 (by decide) (fun hc => ?_) (fun hc => ?_)
  · replace hw := hw.1 hc
    refine r_sub [0, 1, 2, 3, 4, 5, 6, 7, 8] rfl ?_
    exact tb_X6_mostMet_187 C hr hK87 hw
  · replace hw := hw.2 hc
    refine r_aload_n C dX6_mostMet_177 0 rfl ?_
    refine r_iload C dX6_mostMet_178 8 rfl ?_
    refine r_aload_n C dX6_mostMet_180 1 rfl ?_
    refine r_getI C fl_RX6_102_1 hw.1 (fun _ _ _ => rfl) dX6_mostMet_181 ?_
    replace hw := hw.2
    have hob := hw.1
    replace hw := hw.2
    refine r_callV C (As := [.int xl11, .int (aI h al1 5)]) (rest := []) (c_X6_goOnFrom G h al0 xl11 (aI h al1 5) _ hw) yl_X6_goOnFrom (gm5 (List.mem_of_getElem? (i := 149) rfl) rfl) (gm5 (List.mem_of_getElem? (i := 151) rfl) rfl) (ci := 6) rfl (by decide) (gsel (List.mem_of_getElem? (i := 28) rfl)) hob (by decide) rfl (Nat.le_of_ble_eq_true rfl) dX6_mostMet_184 rfl (kV fun hv1  hw => ?_)
    refine r_sub [0, 1, 2, 3, 4, 5, 6, 7, 8] rfl ?_
    exact tb_X6_mostMet_187 C hr hK87 hw
def wb_X6_mostMet_131 (K87 : AH → Nat → Nat → Int32 → Int32 → Int32 → Int32 → Int32 → Int32 → Int32 → Prop) (h : AH) (al0 : Nat) (al1 : Nat) (xl3 : Int32) (xl6 : Int32) (xl7 : Int32) (xl8 : Int32) (xl9 : Int32) (xl10 : Int32) (xl11 : Int32)  (post : AH → Int32 → Prop) : Prop := (ob h al0 6) ∧ (∃ rv1, aP h al0 7 = some rv1 ∧ ((ob h al0 6) ∧ (∃ rv2, aP h al0 0 = some rv2 ∧ ((ob h al0 6) ∧ wp_X6_stateAt h al0 xl11 (fun hv3 iv4 => (ob hv3 rv2 0) ∧ wp_X0_notSoIn hv3 rv2 iv4 (fun hv5 iv6 => (ob hv5 rv1 13) ∧ ((vp_in (xl6 &&& (iv6 ^^^ (-1 : Int32))) (aL hv5 rv1)) ∧ (∀ iv7 : Int32, iv7 = aI hv5 rv1 (xl6 &&& (iv6 ^^^ (-1 : Int32))).toNatClampNeg → ((iv7 ≤ xl7 → (wb_X6_mostMet_171 K87 hv5 al0 al1 xl3 xl6 xl7 xl8 xl9 xl10 xl11 post)) ∧ (¬ iv7 ≤ xl7 → (wb_X6_mostMet_171 K87 hv5 al0 al1 xl3 xl6 iv7 xl11 xl9 xl10 xl11 post)))))))))))
set_option maxRecDepth 100000 in
theorem tb_X6_mostMet_131 {G : GG} {p : Program} {l : Launch} {e : Env} {R : Room} {s : State} {m : MethodId} {args : Array Value} {below : List Frame} {meth : Method} {c : Code} {n0 s0 : Nat} {post : AH → Int32 → Prop} (C : Cx G p R s m args meth c 13 cX6_mostMet RX6 n0 s0 5 126) (hr : meth.sig.returnType = (some .int)) {K87 : AH → Nat → Nat → Int32 → Int32 → Int32 → Int32 → Int32 → Int32 → Int32 → Prop} (hK87 : ∀ (h : AH) (al0 : Nat) (al1 : Nat) (xl3 : Int32) (xl6 : Int32) (xl7 : Int32) (xl8 : Int32) (xl9 : Int32) (xl10 : Int32) (xl11 : Int32), K87 h al0 al1 xl3 xl6 xl7 xl8 xl9 xl10 xl11 → AW G p l e R s m args below meth c 13 (QM G (pI post) args s below n0 s0) 87 [(0, .ref (G.1 + al0)), (1, .ref (G.1 + al1)), (3, .int xl3), (6, .int xl6), (7, .int xl7), (8, .int xl8), (9, .int xl9), (10, .int xl10), (11, .int xl11)] [] h) {h : AH} {al0 : Nat} {al1 : Nat} {xl3 : Int32} {xl6 : Int32} {xl7 : Int32} {xl8 : Int32} {xl9 : Int32} {xl10 : Int32} {xl11 : Int32}  (hw : wb_X6_mostMet_131 K87 h al0 al1 xl3 xl6 xl7 xl8 xl9 xl10 xl11 post) : AW G p l e R s m args below meth c 13 (QM G (pI post) args s below n0 s0) 131 [(0, .ref (G.1 + al0)), (1, .ref (G.1 + al1)), (3, .int xl3), (6, .int xl6), (7, .int xl7), (8, .int xl8), (9, .int xl9), (10, .int xl10), (11, .int xl11)] [] h := by
  unfold wb_X6_mostMet_131 at hw
  refine r_aload_n C dX6_mostMet_131 0 rfl ?_
  have hob := hw.1
  obtain ⟨rv1, hp, hw⟩ := hw.2
  refine r_getP C fl_RX6_20_6 hob hp (fun _ _ _ => rfl) dX6_mostMet_132 ?_
  refine r_iload C dX6_mostMet_135 3 rfl ?_
  refine r_aload_n C dX6_mostMet_137 0 rfl ?_
  have hob := hw.1
  obtain ⟨rv2, hp, hw⟩ := hw.2
  refine r_getP C fl_RX6_37_6 hob hp (fun _ _ _ => rfl) dX6_mostMet_138 ?_
  refine r_aload_n C dX6_mostMet_141 0 rfl ?_
  refine r_iload C dX6_mostMet_142 8 rfl ?_
  have hob := hw.1
  replace hw := hw.2
  refine r_callV C (As := [.int xl11]) (rest := [.ref (G.1 + rv2), .int xl6, .ref (G.1 + rv1)]) (c_X6_stateAt G h al0 xl11 _ hw) yl_X6_stateAt (gm5 (List.mem_of_getElem? (i := 153) rfl) rfl) (gm5 (List.mem_of_getElem? (i := 155) rfl) rfl) (ci := 6) rfl (by decide) (gsel (List.mem_of_getElem? (i := 29) rfl)) hob (by decide) rfl (Nat.le_of_ble_eq_true rfl) dX6_mostMet_144 rfl (kI fun hv3 iv4 hw => ?_)
  have hob := hw.1
  replace hw := hw.2
  refine r_callV C (As := [.int iv4]) (rest := [.int xl6, .ref (G.1 + rv1)]) (c_X0_notSoIn G hv3 rv2 iv4 _ hw) yl_X0_notSoIn (gm5 (List.mem_of_getElem? (i := 233) rfl) rfl) (gm5 (List.mem_of_getElem? (i := 234) rfl) rfl) (ci := 0) rfl (by decide) (gm5 (List.mem_of_getElem? (i := 235) rfl) rfl) hob (by decide) rfl (Nat.le_of_ble_eq_true rfl) dX6_mostMet_147 rfl (kI fun hv5 iv6 hw => ?_)
  refine r_iconst (v := (-1)) C dX6_mostMet_150 (by decide) ?_
  refine r_ixor C dX6_mostMet_151 ?_
  refine r_iand C dX6_mostMet_152 ?_
  refine r_iaload C hw.1 hw.2.1 dX6_mostMet_153 ?_
  replace hw := hw.2.2
  refine r_topi fun iv7 eiv7 => ?_
  replace hw := hw iv7 eiv7
  refine r_istore C dX6_mostMet_154 [(12, .int iv7), (0, .ref (G.1 + al0)), (1, .ref (G.1 + al1)), (3, .int xl3), (6, .int xl6), (7, .int xl7), (8, .int xl8), (9, .int xl9), (10, .int xl10), (11, .int xl11)] (by decide) rfl ?_
  refine r_iload C dX6_mostMet_156 0 rfl ?_
  refine r_iload C dX6_mostMet_158 5 rfl ?_
  refine r_icmp_le C dX6_mostMet_160 171 (by decide) (fun hc => ?_) (fun hc => ?_)
  · replace hw := hw.1 hc
    refine r_sub [1, 2, 3, 4, 5, 6, 7, 8, 9] rfl ?_
    exact tb_X6_mostMet_171 C hr hK87 hw
  · replace hw := hw.2 hc
    refine r_iload C dX6_mostMet_163 0 rfl ?_
    refine r_istore C dX6_mostMet_165 [(7, .int iv7), (12, .int iv7), (0, .ref (G.1 + al0)), (1, .ref (G.1 + al1)), (3, .int xl3), (6, .int xl6), (8, .int xl8), (9, .int xl9), (10, .int xl10), (11, .int xl11)] (by decide) rfl ?_
    refine r_iload C dX6_mostMet_167 9 rfl ?_
    refine r_istore C dX6_mostMet_169 [(8, .int xl11), (7, .int iv7), (12, .int iv7), (0, .ref (G.1 + al0)), (1, .ref (G.1 + al1)), (3, .int xl3), (6, .int xl6), (9, .int xl9), (10, .int xl10), (11, .int xl11)] (by decide) rfl ?_
    refine r_sub [3, 4, 5, 6, 1, 0, 7, 8, 9] rfl ?_
    exact tb_X6_mostMet_171 C hr hK87 hw
def wb_X6_mostMet_87 (K87 : AH → Nat → Nat → Int32 → Int32 → Int32 → Int32 → Int32 → Int32 → Int32 → Prop) (h : AH) (al0 : Nat) (al1 : Nat) (xl3 : Int32) (xl6 : Int32) (xl7 : Int32) (xl8 : Int32) (xl9 : Int32) (xl10 : Int32) (xl11 : Int32)  (post : AH → Int32 → Prop) : Prop := (ob h al0 6) ∧ (((aI h al0 3) ≤ xl11 → (wb_X6_mostMet_193  h al0 xl7 xl8 post)) ∧ (¬ (aI h al0 3) ≤ xl11 → ((64000 ≤ xl11 → (wb_X6_mostMet_193  h al0 xl7 xl8 post)) ∧ (¬ 64000 ≤ xl11 → ((ob h al0 6) ∧ (∃ rv1, aP h al0 7 = some rv1 ∧ ((ob h rv1 13) ∧ ((vp_in xl6 (aL h rv1)) ∧ (((aI h rv1 xl6.toNatClampNeg) ≤ xl7 → (wb_X6_mostMet_193  h al0 xl7 xl8 post)) ∧ (¬ (aI h rv1 xl6.toNatClampNeg) ≤ xl7 → ((¬ xl11 = xl10 → (wb_X6_mostMet_131 K87 h al0 al1 xl3 xl6 xl7 xl8 xl9 xl10 xl11 post)) ∧ (xl11 = xl10 → (∀ iv2 : Int32, iv2 = xl9 + 1 → ((ob h al0 6) ∧ (∀ iv3 : Int32, iv3 = aI h al0 3 → (wb_X6_mostMet_131 K87 h al0 al1 xl3 xl6 xl7 xl8 iv2 iv3 xl11 post))))))))))))))))
set_option maxRecDepth 100000 in
theorem tb_X6_mostMet_87 {G : GG} {p : Program} {l : Launch} {e : Env} {R : Room} {s : State} {m : MethodId} {args : Array Value} {below : List Frame} {meth : Method} {c : Code} {n0 s0 : Nat} {post : AH → Int32 → Prop} (C : Cx G p R s m args meth c 13 cX6_mostMet RX6 n0 s0 5 126) (hr : meth.sig.returnType = (some .int)) {K87 : AH → Nat → Nat → Int32 → Int32 → Int32 → Int32 → Int32 → Int32 → Int32 → Prop} (hK87 : ∀ (h : AH) (al0 : Nat) (al1 : Nat) (xl3 : Int32) (xl6 : Int32) (xl7 : Int32) (xl8 : Int32) (xl9 : Int32) (xl10 : Int32) (xl11 : Int32), K87 h al0 al1 xl3 xl6 xl7 xl8 xl9 xl10 xl11 → AW G p l e R s m args below meth c 13 (QM G (pI post) args s below n0 s0) 87 [(0, .ref (G.1 + al0)), (1, .ref (G.1 + al1)), (3, .int xl3), (6, .int xl6), (7, .int xl7), (8, .int xl8), (9, .int xl9), (10, .int xl10), (11, .int xl11)] [] h) {h : AH} {al0 : Nat} {al1 : Nat} {xl3 : Int32} {xl6 : Int32} {xl7 : Int32} {xl8 : Int32} {xl9 : Int32} {xl10 : Int32} {xl11 : Int32}  (hw : wb_X6_mostMet_87 K87 h al0 al1 xl3 xl6 xl7 xl8 xl9 xl10 xl11 post) : AW G p l e R s m args below meth c 13 (QM G (pI post) args s below n0 s0) 87 [(0, .ref (G.1 + al0)), (1, .ref (G.1 + al1)), (3, .int xl3), (6, .int xl6), (7, .int xl7), (8, .int xl8), (9, .int xl9), (10, .int xl10), (11, .int xl11)] [] h := by
  unfold wb_X6_mostMet_87 at hw
  refine r_iload C dX6_mostMet_87 8 rfl ?_
  refine r_aload_n C dX6_mostMet_89 0 rfl ?_
  refine r_getI C fl_RX6_54_6 hw.1 (fun _ _ _ => rfl) dX6_mostMet_90 ?_
  replace hw := hw.2
  refine r_icmp_ge C dX6_mostMet_93 193 (by decide) (fun hc => ?_) (fun hc => ?_)
  · replace hw := hw.1 hc
    refine r_sub [0, 4, 5] rfl ?_
    exact tb_X6_mostMet_193 C hr  hw
  · replace hw := hw.2 hc
    refine r_iload C dX6_mostMet_96 8 rfl ?_
    refine r_ldc (v := 64000) C (gm5 (List.mem_of_getElem? (i := 132) rfl) rfl) dX6_mostMet_98 ?_
    refine r_icmp_ge C dX6_mostMet_100 193 (by decide) (fun hc => ?_) (fun hc => ?_)
    · replace hw := hw.1 hc
      refine r_sub [0, 4, 5] rfl ?_
      exact tb_X6_mostMet_193 C hr  hw
    · replace hw := hw.2 hc
      refine r_iload C dX6_mostMet_103 4 rfl ?_
      refine r_aload_n C dX6_mostMet_105 0 rfl ?_
      have hob := hw.1
      obtain ⟨rv1, hp, hw⟩ := hw.2
      refine r_getP C fl_RX6_20_6 hob hp (fun _ _ _ => rfl) dX6_mostMet_106 ?_
      refine r_iload C dX6_mostMet_109 3 rfl ?_
      refine r_iaload C hw.1 hw.2.1 dX6_mostMet_111 ?_
      replace hw := hw.2.2
      refine r_icmp_ge C dX6_mostMet_112 193 (by decide) (fun hc => ?_) (fun hc => ?_)
      · replace hw := hw.1 hc
        refine r_sub [0, 4, 5] rfl ?_
        exact tb_X6_mostMet_193 C hr  hw
      · replace hw := hw.2 hc
        refine r_iload C dX6_mostMet_115 8 rfl ?_
        refine r_iload C dX6_mostMet_117 7 rfl ?_
        refine r_icmp_ne C dX6_mostMet_119 131 (by decide) (fun hc => ?_) (fun hc => ?_)
        · replace hw := hw.1 hc
          refine r_sub [0, 1, 2, 3, 4, 5, 6, 7, 8] rfl ?_
          exact tb_X6_mostMet_131 C hr hK87 hw
        · replace hw := hw.2 hc
          obtain ⟨iv2, eiv2⟩ : ∃ q : Int32, q = xl9 + 1 := ⟨_, rfl⟩
          replace hw := hw iv2 eiv2
          refine r_iinc C dX6_mostMet_122 6 rfl (by rw [eiv2]; rfl) [(9, .int iv2), (0, .ref (G.1 + al0)), (1, .ref (G.1 + al1)), (3, .int xl3), (6, .int xl6), (7, .int xl7), (8, .int xl8), (10, .int xl10), (11, .int xl11)] (by decide) rfl ?_
          refine r_aload_n C dX6_mostMet_125 1 rfl ?_
          refine r_getI C fl_RX6_54_6 hw.1 (fun _ _ _ => rfl) dX6_mostMet_126 ?_
          replace hw := hw.2
          refine r_topi fun iv3 eiv3 => ?_
          replace hw := hw iv3 eiv3
          refine r_istore C dX6_mostMet_129 [(10, .int iv3), (9, .int iv2), (0, .ref (G.1 + al0)), (1, .ref (G.1 + al1)), (3, .int xl3), (6, .int xl6), (7, .int xl7), (8, .int xl8), (11, .int xl11)] (by decide) rfl ?_
          refine r_sub [2, 3, 4, 5, 6, 7, 1, 0, 8] rfl ?_
          exact tb_X6_mostMet_131 C hr hK87 hw
def wl_X6_mostMet_87  (post : AH → Int32 → Prop) : Nat → AH → Nat → Nat → Int32 → Int32 → Int32 → Int32 → Int32 → Int32 → Int32 → Prop
  | 0 => fun _ _ _ _ _ _ _ _ _ _ => False
  | n + 1 => fun h al0 al1 xl3 xl6 xl7 xl8 xl9 xl10 xl11 => wb_X6_mostMet_87  (wl_X6_mostMet_87  post n) h al0 al1 xl3 xl6 xl7 xl8 xl9 xl10 xl11 post
theorem tl_X6_mostMet_87 {G : GG} {p : Program} {l : Launch} {e : Env} {R : Room} {s : State} {m : MethodId} {args : Array Value} {below : List Frame} {meth : Method} {c : Code} {n0 s0 : Nat} {post : AH → Int32 → Prop} (C : Cx G p R s m args meth c 13 cX6_mostMet RX6 n0 s0 5 126) (hr : meth.sig.returnType = (some .int))   : ∀ (n : Nat) (h : AH) (al0 : Nat) (al1 : Nat) (xl3 : Int32) (xl6 : Int32) (xl7 : Int32) (xl8 : Int32) (xl9 : Int32) (xl10 : Int32) (xl11 : Int32), wl_X6_mostMet_87  post n h al0 al1 xl3 xl6 xl7 xl8 xl9 xl10 xl11 → AW G p l e R s m args below meth c 13 (QM G (pI post) args s below n0 s0) 87 [(0, .ref (G.1 + al0)), (1, .ref (G.1 + al1)), (3, .int xl3), (6, .int xl6), (7, .int xl7), (8, .int xl8), (9, .int xl9), (10, .int xl10), (11, .int xl11)] [] h := by
  intro n
  induction n with
  | zero => intro h al0 al1 xl3 xl6 xl7 xl8 xl9 xl10 xl11 hw; exact hw.elim
  | succ n ih => intro h al0 al1 xl3 xl6 xl7 xl8 xl9 xl10 xl11 hw; exact tb_X6_mostMet_87 C hr  ih hw
def wp_X6_mostMet (h : AH) (a0 : Nat) (a1 : Nat) (a2 : Nat) (x3 : Int32) (x4 : Int32) (post : AH → Int32 → Prop) : Prop := (ob h a0 6) ∧ (∃ rv1, aP h a0 0 = some rv1 ∧ ((ob h rv1 0) ∧ wp_X0_list h rv1 a1 (fun hv2  => (ob hv2 a0 6) ∧ (∃ rv3, aP hv2 a0 0 = some rv3 ∧ ((ob hv2 rv3 0) ∧ wp_X0_link hv2 rv3 x4 (fun hv4  => (ob hv4 a0 6) ∧ (∃ rv5, aP hv4 a0 0 = some rv5 ∧ ((ob hv4 rv5 0) ∧ wp_X0_stateOf hv4 rv5 a2 (fun hv6 iv7 => (ob hv6 a0 6) ∧ wp_X6_begin hv6 a0 iv7 (-1) (fun hv8  => (ob hv8 a0 6) ∧ wp_X6_isNew hv8 a0 iv7 (fun hv9 iv10 => (ob hv9 a0 6) ∧ (∃ rv11, aP hv9 a0 0 = some rv11 ∧ ((ob hv9 rv11 0) ∧ wp_X0_weigh hv9 rv11  (fun hv12  => (ob hv12 a1 1) ∧ (∃ rv13, aP hv12 a1 15 = some rv13 ∧ ((ob hv12 a0 6) ∧ (∃ rv14, aP hv12 a0 7 = some rv14 ∧ ((ob hv12 rv13 9) ∧ wp_X10_sumUp hv12 rv13 rv14 (fun hv15  => (ob hv15 a1 1) ∧ (∃ rv16, aP hv15 a1 15 = some rv16 ∧ ((ob hv15 rv16 9) ∧ (∀ iv17 : Int32, iv17 = ((1 : Int32) <<< ((aI hv15 rv16 0) &&& 31)) - (1 : Int32) → (∃ n, wl_X6_mostMet_87  post n hv15 a0 a1 x3 iv17 (-1) 0 0 1 0)))))))))))))))))))))))
set_option maxRecDepth 100000 in
theorem c_X6_mostMet (G : GG) (h : AH) (a0 : Nat) (a1 : Nat) (a2 : Nat) (x3 : Int32) (x4 : Int32) (post : AH → Int32 → Prop) (hw : wp_X6_mostMet h a0 a1 a2 x3 x4 post) : MC G yX6_mostMet cX6_mostMet 13 (some .int) 5 126 h [.ref (G.1 + a0), .ref (G.1 + a1), .ref (G.1 + a2), .int x3, .int x4] (pI post) := by
  refine MC.of (lv := [(0, .ref (G.1 + a0)), (1, .ref (G.1 + a1)), (2, .ref (G.1 + a2)), (3, .int x3), (4, .int x4)]) (by decide) (Nat.le_of_ble_eq_true rfl) rfl fun p l e R s m args below meth c C hr hnm => ?_
  unfold wp_X6_mostMet at hw
  refine r_aload_n C dX6_mostMet_0 0 rfl ?_
  have hob := hw.1
  obtain ⟨rv1, hp, hw⟩ := hw.2
  refine r_getP C fl_RX6_37_6 hob hp (fun _ _ _ => rfl) dX6_mostMet_1 ?_
  refine r_aload_n C dX6_mostMet_4 1 rfl ?_
  have hob := hw.1
  replace hw := hw.2
  refine r_callV C (As := [.ref (G.1 + a1)]) (rest := []) (c_X0_list G h rv1 a1 _ hw) yl_X0_list (gm5 (List.mem_of_getElem? (i := 88) rfl) rfl) (gm5 (List.mem_of_getElem? (i := 89) rfl) rfl) (ci := 0) rfl (by decide) (gm5 (List.mem_of_getElem? (i := 90) rfl) rfl) hob (by decide) rfl (Nat.le_of_ble_eq_true rfl) dX6_mostMet_5 rfl (kV fun hv2  hw => ?_)
  refine r_aload_n C dX6_mostMet_8 0 rfl ?_
  have hob := hw.1
  obtain ⟨rv3, hp, hw⟩ := hw.2
  refine r_getP C fl_RX6_37_6 hob hp (fun _ _ _ => rfl) dX6_mostMet_9 ?_
  refine r_iload C dX6_mostMet_12 4 rfl ?_
  have hob := hw.1
  replace hw := hw.2
  refine r_callV C (As := [.int x4]) (rest := []) (c_X0_link G hv2 rv3 x4 _ hw) yl_X0_link (gm5 (List.mem_of_getElem? (i := 109) rfl) rfl) (gm5 (List.mem_of_getElem? (i := 110) rfl) rfl) (ci := 0) rfl (by decide) (gm5 (List.mem_of_getElem? (i := 111) rfl) rfl) hob (by decide) rfl (Nat.le_of_ble_eq_true rfl) dX6_mostMet_14 rfl (kV fun hv4  hw => ?_)
  refine r_aload_n C dX6_mostMet_17 0 rfl ?_
  have hob := hw.1
  obtain ⟨rv5, hp, hw⟩ := hw.2
  refine r_getP C fl_RX6_37_6 hob hp (fun _ _ _ => rfl) dX6_mostMet_18 ?_
  refine r_aload_n C dX6_mostMet_21 2 rfl ?_
  have hob := hw.1
  replace hw := hw.2
  refine r_callV C (As := [.ref (G.1 + a2)]) (rest := []) (c_X0_stateOf G hv4 rv5 a2 _ hw) yl_X0_stateOf (gm5 (List.mem_of_getElem? (i := 119) rfl) rfl) (gm5 (List.mem_of_getElem? (i := 120) rfl) rfl) (ci := 0) rfl (by decide) (gm5 (List.mem_of_getElem? (i := 121) rfl) rfl) hob (by decide) rfl (Nat.le_of_ble_eq_true rfl) dX6_mostMet_22 rfl (kI fun hv6 iv7 hw => ?_)
  refine r_istore C dX6_mostMet_25 [(5, .int iv7), (0, .ref (G.1 + a0)), (1, .ref (G.1 + a1)), (2, .ref (G.1 + a2)), (3, .int x3), (4, .int x4)] (by decide) rfl ?_
  refine r_aload_n C dX6_mostMet_27 1 rfl ?_
  refine r_iload C dX6_mostMet_28 0 rfl ?_
  refine r_iconst (v := (-1)) C dX6_mostMet_30 (by decide) ?_
  have hob := hw.1
  replace hw := hw.2
  refine r_callV C (As := [.int iv7, .int (-1)]) (rest := []) (c_X6_begin G hv6 a0 iv7 (-1) _ hw) yl_X6_begin (gm5 (List.mem_of_getElem? (i := 123) rfl) rfl) (gm5 (List.mem_of_getElem? (i := 125) rfl) rfl) (ci := 6) rfl (by decide) (gsel (List.mem_of_getElem? (i := 25) rfl)) hob (by decide) rfl (Nat.le_of_ble_eq_true rfl) dX6_mostMet_31 rfl (kV fun hv8  hw => ?_)
  refine r_aload_n C dX6_mostMet_34 1 rfl ?_
  refine r_iload C dX6_mostMet_35 0 rfl ?_
  have hob := hw.1
  replace hw := hw.2
  refine r_callV C (As := [.int iv7]) (rest := []) (c_X6_isNew G hv8 a0 iv7 _ hw) yl_X6_isNew (gm5 (List.mem_of_getElem? (i := 145) rfl) rfl) (gm5 (List.mem_of_getElem? (i := 147) rfl) rfl) (ci := 6) rfl (by decide) (gsel (List.mem_of_getElem? (i := 27) rfl)) hob (by decide) rfl (Nat.le_of_ble_eq_true rfl) dX6_mostMet_37 rfl (kI fun hv9 iv10 hw => ?_)
  refine r_pop C dX6_mostMet_40 rfl ?_
  refine r_aload_n C dX6_mostMet_41 1 rfl ?_
  have hob := hw.1
  obtain ⟨rv11, hp, hw⟩ := hw.2
  refine r_getP C fl_RX6_37_6 hob hp (fun _ _ _ => rfl) dX6_mostMet_42 ?_
  have hob := hw.1
  replace hw := hw.2
  refine r_callV C (As := []) (rest := []) (c_X0_weigh G hv9 rv11  _ hw) yl_X0_weigh (gm5 (List.mem_of_getElem? (i := 216) rfl) rfl) (gm5 (List.mem_of_getElem? (i := 217) rfl) rfl) (ci := 0) rfl (by decide) (gm5 (List.mem_of_getElem? (i := 218) rfl) rfl) hob (by decide) rfl (Nat.le_of_ble_eq_true rfl) dX6_mostMet_45 rfl (kV fun hv12  hw => ?_)
  refine r_aload_n C dX6_mostMet_48 2 rfl ?_
  have hob := hw.1
  obtain ⟨rv13, hp, hw⟩ := hw.2
  refine r_getP C fl_RX6_134_1 hob hp (fun _ _ _ => rfl) dX6_mostMet_49 ?_
  refine r_aload_n C dX6_mostMet_52 1 rfl ?_
  have hob := hw.1
  obtain ⟨rv14, hp, hw⟩ := hw.2
  refine r_getP C fl_RX6_20_6 hob hp (fun _ _ _ => rfl) dX6_mostMet_53 ?_
  have hob := hw.1
  replace hw := hw.2
  refine r_callV C (As := [.ref (G.1 + rv14)]) (rest := []) (c_X10_sumUp G hv12 rv13 rv14 _ hw) yl_X10_sumUp (gm5 (List.mem_of_getElem? (i := 229) rfl) rfl) (gm5 (List.mem_of_getElem? (i := 230) rfl) rfl) (ci := 9) rfl (by decide) (gm5 (List.mem_of_getElem? (i := 231) rfl) rfl) hob (by decide) rfl (Nat.le_of_ble_eq_true rfl) dX6_mostMet_56 rfl (kV fun hv15  hw => ?_)
  refine r_iconst (v := 1) C dX6_mostMet_59 (by decide) ?_
  refine r_aload_n C dX6_mostMet_60 2 rfl ?_
  have hob := hw.1
  obtain ⟨rv16, hp, hw⟩ := hw.2
  refine r_getP C fl_RX6_134_1 hob hp (fun _ _ _ => rfl) dX6_mostMet_61 ?_
  refine r_getI C fl_RX6_144_9 hw.1 (fun _ _ _ => rfl) dX6_mostMet_64 ?_
  replace hw := hw.2
  refine r_ishl C dX6_mostMet_67 ?_
  refine r_iconst (v := 1) C dX6_mostMet_68 (by decide) ?_
  refine r_isub C dX6_mostMet_69 ?_
  refine r_topi fun iv17 eiv17 => ?_
  replace hw := hw iv17 eiv17
  refine r_istore C dX6_mostMet_70 [(6, .int iv17), (5, .int iv7), (0, .ref (G.1 + a0)), (1, .ref (G.1 + a1)), (2, .ref (G.1 + a2)), (3, .int x3), (4, .int x4)] (by decide) rfl ?_
  refine r_iconst (v := (-1)) C dX6_mostMet_72 (by decide) ?_
  refine r_istore C dX6_mostMet_73 [(7, .int (-1)), (6, .int iv17), (5, .int iv7), (0, .ref (G.1 + a0)), (1, .ref (G.1 + a1)), (2, .ref (G.1 + a2)), (3, .int x3), (4, .int x4)] (by decide) rfl ?_
  refine r_iconst (v := 0) C dX6_mostMet_75 (by decide) ?_
  refine r_istore C dX6_mostMet_76 [(8, .int 0), (7, .int (-1)), (6, .int iv17), (5, .int iv7), (0, .ref (G.1 + a0)), (1, .ref (G.1 + a1)), (2, .ref (G.1 + a2)), (3, .int x3), (4, .int x4)] (by decide) rfl ?_
  refine r_iconst (v := 0) C dX6_mostMet_78 (by decide) ?_
  refine r_istore C dX6_mostMet_79 [(9, .int 0), (8, .int 0), (7, .int (-1)), (6, .int iv17), (5, .int iv7), (0, .ref (G.1 + a0)), (1, .ref (G.1 + a1)), (2, .ref (G.1 + a2)), (3, .int x3), (4, .int x4)] (by decide) rfl ?_
  refine r_iconst (v := 1) C dX6_mostMet_81 (by decide) ?_
  refine r_istore C dX6_mostMet_82 [(10, .int 1), (9, .int 0), (8, .int 0), (7, .int (-1)), (6, .int iv17), (5, .int iv7), (0, .ref (G.1 + a0)), (1, .ref (G.1 + a1)), (2, .ref (G.1 + a2)), (3, .int x3), (4, .int x4)] (by decide) rfl ?_
  refine r_iconst (v := 0) C dX6_mostMet_84 (by decide) ?_
  refine r_istore C dX6_mostMet_85 [(11, .int 0), (10, .int 1), (9, .int 0), (8, .int 0), (7, .int (-1)), (6, .int iv17), (5, .int iv7), (0, .ref (G.1 + a0)), (1, .ref (G.1 + a1)), (2, .ref (G.1 + a2)), (3, .int x3), (4, .int x4)] (by decide) rfl ?_
  refine r_sub [7, 8, 10, 5, 4, 3, 2, 1, 0] rfl ?_
  obtain ⟨n, hw⟩ := hw
  exact tl_X6_mostMet_87 C hr  n _ _ _ _ _ _ _ _ _ _ hw
theorem dX6_isNewSpot_0 : decode cX6_isNewSpot 0 = .ok (.lconst 1, 1) := by decide +kernel
theorem dX6_isNewSpot_1 : decode cX6_isNewSpot 1 = .ok (.iload_n 1, 1) := by decide +kernel
theorem dX6_isNewSpot_2 : decode cX6_isNewSpot 2 = .ok (.bipush 63, 2) := by decide +kernel
theorem dX6_isNewSpot_4 : decode cX6_isNewSpot 4 = .ok (.iand, 1) := by decide +kernel
theorem dX6_isNewSpot_5 : decode cX6_isNewSpot 5 = .ok (.lshl, 1) := by decide +kernel
theorem dX6_isNewSpot_6 : decode cX6_isNewSpot 6 = .ok (.lstore_n 2, 1) := by decide +kernel
theorem dX6_isNewSpot_7 : decode cX6_isNewSpot 7 = .ok (.iload_n 1, 1) := by decide +kernel
theorem dX6_isNewSpot_8 : decode cX6_isNewSpot 8 = .ok (.bipush 6, 2) := by decide +kernel
theorem dX6_isNewSpot_10 : decode cX6_isNewSpot 10 = .ok (.ishr, 1) := by decide +kernel
theorem dX6_isNewSpot_11 : decode cX6_isNewSpot 11 = .ok (.istore 4, 2) := by decide +kernel
theorem dX6_isNewSpot_13 : decode cX6_isNewSpot 13 = .ok (.aload_n 0, 1) := by decide +kernel
theorem dX6_isNewSpot_14 : decode cX6_isNewSpot 14 = .ok (.getfield 11, 3) := by decide +kernel
theorem dX6_isNewSpot_17 : decode cX6_isNewSpot 17 = .ok (.iload 4, 2) := by decide +kernel
theorem dX6_isNewSpot_19 : decode cX6_isNewSpot 19 = .ok (.laload, 1) := by decide +kernel
theorem dX6_isNewSpot_20 : decode cX6_isNewSpot 20 = .ok (.lload_n 2, 1) := by decide +kernel
theorem dX6_isNewSpot_21 : decode cX6_isNewSpot 21 = .ok (.land, 1) := by decide +kernel
theorem dX6_isNewSpot_22 : decode cX6_isNewSpot 22 = .ok (.lconst 0, 1) := by decide +kernel
theorem dX6_isNewSpot_23 : decode cX6_isNewSpot 23 = .ok (.lcmp, 1) := by decide +kernel
theorem dX6_isNewSpot_24 : decode cX6_isNewSpot 24 = .ok (.ifCond .eq 5, 3) := by decide +kernel
theorem dX6_isNewSpot_27 : decode cX6_isNewSpot 27 = .ok (.iconst 0, 1) := by decide +kernel
theorem dX6_isNewSpot_28 : decode cX6_isNewSpot 28 = .ok (.ireturn, 1) := by decide +kernel
theorem dX6_isNewSpot_29 : decode cX6_isNewSpot 29 = .ok (.aload_n 0, 1) := by decide +kernel
theorem dX6_isNewSpot_30 : decode cX6_isNewSpot 30 = .ok (.getfield 11, 3) := by decide +kernel
theorem dX6_isNewSpot_33 : decode cX6_isNewSpot 33 = .ok (.iload 4, 2) := by decide +kernel
theorem dX6_isNewSpot_35 : decode cX6_isNewSpot 35 = .ok (.dup2, 1) := by decide +kernel
theorem dX6_isNewSpot_36 : decode cX6_isNewSpot 36 = .ok (.laload, 1) := by decide +kernel
theorem dX6_isNewSpot_37 : decode cX6_isNewSpot 37 = .ok (.lload_n 2, 1) := by decide +kernel
theorem dX6_isNewSpot_38 : decode cX6_isNewSpot 38 = .ok (.lor, 1) := by decide +kernel
theorem dX6_isNewSpot_39 : decode cX6_isNewSpot 39 = .ok (.lastore, 1) := by decide +kernel
theorem dX6_isNewSpot_40 : decode cX6_isNewSpot 40 = .ok (.iconst 1, 1) := by decide +kernel
theorem dX6_isNewSpot_41 : decode cX6_isNewSpot 41 = .ok (.ireturn, 1) := by decide +kernel
def wp_X6_isNewSpot (h : AH) (a0 : Nat) (x1 : Int32) (post : AH → Int32 → Prop) : Prop := ∀ jv1 : Int64, jv1 = (1 : Int64) <<< ((x1 &&& (63 : Int32)).toInt64 &&& 63) → (∀ iv2 : Int32, iv2 = x1 >>> ((6 : Int32) &&& 31) → ((ob h a0 6) ∧ (∃ rv3, aP h a0 1 = some rv3 ∧ ((ob h rv3 14) ∧ ((vp_in iv2 (aL h rv3)) ∧ (((lg_cmp ((aJ h rv3 iv2.toNatClampNeg) &&& jv1) 0) = 0 → ((ob h a0 6) ∧ (∃ rv4, aP h a0 1 = some rv4 ∧ ((ob h rv4 14) ∧ ((vp_in iv2 (aL h rv4)) ∧ ((ob h rv4 14) ∧ ((vp_in iv2 (aL h rv4)) ∧ (∀ hv5 : AH, hv5 = hJ h rv4 iv2.toNatClampNeg ((aJ h rv4 iv2.toNatClampNeg) ||| jv1) → (((1 : Int32) = 0 ∨ (1 : Int32) = 1) ∧ post hv5 1))))))))) ∧ (¬ (lg_cmp ((aJ h rv3 iv2.toNatClampNeg) &&& jv1) 0) = 0 → (((0 : Int32) = 0 ∨ (0 : Int32) = 1) ∧ post h 0))))))))
set_option maxRecDepth 100000 in
theorem c_X6_isNewSpot (G : GG) (h : AH) (a0 : Nat) (x1 : Int32) (post : AH → Int32 → Prop) (hw : wp_X6_isNewSpot h a0 x1 post) : MC G yX6_isNewSpot cX6_isNewSpot 5 (some .boolean) 0 0 h [.ref (G.1 + a0), .int x1] (pI post) := by
  refine MC.of (lv := [(0, .ref (G.1 + a0)), (1, .int x1)]) (by decide) (Nat.le_of_ble_eq_true rfl) rfl fun p l e R s m args below meth c C hr hnm => ?_
  unfold wp_X6_isNewSpot at hw
  refine r_lconst (v := 1) C dX6_isNewSpot_0 (by decide) ?_
  refine r_iload_n C dX6_isNewSpot_1 1 rfl ?_
  refine r_bipush (v := 63) C dX6_isNewSpot_2 (by decide) ?_
  refine r_iand C dX6_isNewSpot_4 ?_
  refine r_lshl C dX6_isNewSpot_5 ?_
  refine r_topl fun jv1 ejv1 => ?_
  replace hw := hw jv1 ejv1
  refine r_lstore_n C dX6_isNewSpot_6 [(2, .long jv1), (0, .ref (G.1 + a0)), (1, .int x1)] (by decide) rfl ?_
  refine r_iload_n C dX6_isNewSpot_7 2 rfl ?_
  refine r_bipush (v := 6) C dX6_isNewSpot_8 (by decide) ?_
  refine r_ishr C dX6_isNewSpot_10 ?_
  refine r_topi fun iv2 eiv2 => ?_
  replace hw := hw iv2 eiv2
  refine r_istore C dX6_isNewSpot_11 [(4, .int iv2), (2, .long jv1), (0, .ref (G.1 + a0)), (1, .int x1)] (by decide) rfl ?_
  refine r_aload_n C dX6_isNewSpot_13 2 rfl ?_
  have hob := hw.1
  obtain ⟨rv3, hp, hw⟩ := hw.2
  refine r_getP C fl_RX6_11_6 hob hp (fun _ _ _ => rfl) dX6_isNewSpot_14 ?_
  refine r_iload C dX6_isNewSpot_17 0 rfl ?_
  refine r_laload C hw.1 hw.2.1 dX6_isNewSpot_19 ?_
  replace hw := hw.2.2
  refine r_lload_n C dX6_isNewSpot_20 1 rfl ?_
  refine r_land C dX6_isNewSpot_21 ?_
  refine r_lconst (v := 0) C dX6_isNewSpot_22 (by decide) ?_
  refine r_lcmp C dX6_isNewSpot_23 ?_
  refine r_if_eq C dX6_isNewSpot_24 29 (by decide) (fun hc => ?_) (fun hc => ?_)
  · replace hw := hw.1 hc
    refine r_aload_n C dX6_isNewSpot_29 2 rfl ?_
    have hob := hw.1
    obtain ⟨rv4, hp, hw⟩ := hw.2
    refine r_getP C fl_RX6_11_6 hob hp (fun _ _ _ => rfl) dX6_isNewSpot_30 ?_
    refine r_iload C dX6_isNewSpot_33 0 rfl ?_
    refine r_dup2 C dX6_isNewSpot_35 rfl rfl ?_
    refine r_laload C hw.1 hw.2.1 dX6_isNewSpot_36 ?_
    replace hw := hw.2.2
    refine r_lload_n C dX6_isNewSpot_37 1 rfl ?_
    refine r_lor C dX6_isNewSpot_38 ?_
    refine r_lastore C hw.1 hw.2.1 dX6_isNewSpot_39 ?_
    replace hw := hw.2.2
    refine r_toph fun hv5 ehv5 => ?_
    replace hw := hw hv5 ehv5
    refine r_iconst (v := 1) C dX6_isNewSpot_40 (by decide) ?_
    exact r_zret C hr dX6_isNewSpot_41 hw.1 hw.2
  · replace hw := hw.2 hc
    refine r_iconst (v := 0) C dX6_isNewSpot_27 (by decide) ?_
    exact r_zret C hr dX6_isNewSpot_28 hw.1 hw.2
theorem dX8_coveredBut_0 : decode cX8_coveredBut 0 = .ok (.lconst 0, 1) := by decide +kernel
theorem dX8_coveredBut_1 : decode cX8_coveredBut 1 = .ok (.lstore_n 2, 1) := by decide +kernel
theorem dX8_coveredBut_2 : decode cX8_coveredBut 2 = .ok (.iconst 0, 1) := by decide +kernel
theorem dX8_coveredBut_3 : decode cX8_coveredBut 3 = .ok (.istore 4, 2) := by decide +kernel
theorem dX8_coveredBut_5 : decode cX8_coveredBut 5 = .ok (.iload 4, 2) := by decide +kernel
theorem dX8_coveredBut_7 : decode cX8_coveredBut 7 = .ok (.aload_n 0, 1) := by decide +kernel
theorem dX8_coveredBut_8 : decode cX8_coveredBut 8 = .ok (.getfield 19, 3) := by decide +kernel
theorem dX8_coveredBut_11 : decode cX8_coveredBut 11 = .ok (.getfield 23, 3) := by decide +kernel
theorem dX8_coveredBut_14 : decode cX8_coveredBut 14 = .ok (.if_icmp .ge 25, 3) := by decide +kernel
theorem dX8_coveredBut_17 : decode cX8_coveredBut 17 = .ok (.iload 4, 2) := by decide +kernel
theorem dX8_coveredBut_19 : decode cX8_coveredBut 19 = .ok (.iload_n 1, 1) := by decide +kernel
theorem dX8_coveredBut_20 : decode cX8_coveredBut 20 = .ok (.if_icmp .eq 13, 3) := by decide +kernel
theorem dX8_coveredBut_23 : decode cX8_coveredBut 23 = .ok (.lload_n 2, 1) := by decide +kernel
theorem dX8_coveredBut_24 : decode cX8_coveredBut 24 = .ok (.aload_n 0, 1) := by decide +kernel
theorem dX8_coveredBut_25 : decode cX8_coveredBut 25 = .ok (.getfield 15, 3) := by decide +kernel
theorem dX8_coveredBut_28 : decode cX8_coveredBut 28 = .ok (.iload 4, 2) := by decide +kernel
theorem dX8_coveredBut_30 : decode cX8_coveredBut 30 = .ok (.laload, 1) := by decide +kernel
theorem dX8_coveredBut_31 : decode cX8_coveredBut 31 = .ok (.lor, 1) := by decide +kernel
theorem dX8_coveredBut_32 : decode cX8_coveredBut 32 = .ok (.lstore_n 2, 1) := by decide +kernel
theorem dX8_coveredBut_33 : decode cX8_coveredBut 33 = .ok (.iinc 4 1, 3) := by decide +kernel
theorem dX8_coveredBut_36 : decode cX8_coveredBut 36 = .ok (.goto (-31), 3) := by decide +kernel
theorem dX8_coveredBut_39 : decode cX8_coveredBut 39 = .ok (.lload_n 2, 1) := by decide +kernel
theorem dX8_coveredBut_40 : decode cX8_coveredBut 40 = .ok (.lreturn, 1) := by decide +kernel
def wb_X8_coveredBut_33 (K5 : AH → Nat → Int32 → Int64 → Int32 → Prop) (h : AH) (al0 : Nat) (xl1 : Int32) (zl2 : Int64) (xl4 : Int32)  (post : AH → Int64 → Prop) : Prop := ∀ iv1 : Int32, iv1 = xl4 + 1 → (K5 h al0 xl1 zl2 iv1)
set_option maxRecDepth 100000 in
theorem tb_X8_coveredBut_33 {G : GG} {p : Program} {l : Launch} {e : Env} {R : Room} {s : State} {m : MethodId} {args : Array Value} {below : List Frame} {meth : Method} {c : Code} {n0 s0 : Nat} {post : AH → Int64 → Prop} (C : Cx G p R s m args meth c 5 cX8_coveredBut RX8 n0 s0 0 0) (hr : meth.sig.returnType = (some .long)) {K5 : AH → Nat → Int32 → Int64 → Int32 → Prop} (hK5 : ∀ (h : AH) (al0 : Nat) (xl1 : Int32) (zl2 : Int64) (xl4 : Int32), K5 h al0 xl1 zl2 xl4 → AW G p l e R s m args below meth c 5 (QM G (pJ post) args s below n0 s0) 5 [(0, .ref (G.1 + al0)), (1, .int xl1), (2, .long zl2), (4, .int xl4)] [] h) {h : AH} {al0 : Nat} {xl1 : Int32} {zl2 : Int64} {xl4 : Int32}  (hw : wb_X8_coveredBut_33 K5 h al0 xl1 zl2 xl4 post) : AW G p l e R s m args below meth c 5 (QM G (pJ post) args s below n0 s0) 33 [(0, .ref (G.1 + al0)), (1, .int xl1), (2, .long zl2), (4, .int xl4)] [] h := by
  unfold wb_X8_coveredBut_33 at hw
  obtain ⟨iv1, eiv1⟩ : ∃ q : Int32, q = xl4 + 1 := ⟨_, rfl⟩
  replace hw := hw iv1 eiv1
  refine r_iinc C dX8_coveredBut_33 3 rfl (by rw [eiv1]; rfl) [(4, .int iv1), (0, .ref (G.1 + al0)), (1, .int xl1), (2, .long zl2)] (by decide) rfl ?_
  refine r_goto C dX8_coveredBut_36 5 (by decide) ?_
  refine r_sub [1, 2, 3, 0] rfl ?_
  exact hK5 _ _ _ _ _ hw
def wb_X8_coveredBut_5 (K5 : AH → Nat → Int32 → Int64 → Int32 → Prop) (h : AH) (al0 : Nat) (xl1 : Int32) (zl2 : Int64) (xl4 : Int32)  (post : AH → Int64 → Prop) : Prop := (ob h al0 7) ∧ (∃ rv1, aP h al0 0 = some rv1 ∧ ((ob h rv1 1) ∧ (((aI h rv1 5) ≤ xl4 → (post h zl2)) ∧ (¬ (aI h rv1 5) ≤ xl4 → ((xl4 = xl1 → (wb_X8_coveredBut_33 K5 h al0 xl1 zl2 xl4 post)) ∧ (¬ xl4 = xl1 → ((ob h al0 7) ∧ (∃ rv2, aP h al0 2 = some rv2 ∧ ((ob h rv2 14) ∧ ((vp_in xl4 (aL h rv2)) ∧ (∀ jv3 : Int64, jv3 = zl2 ||| (aJ h rv2 xl4.toNatClampNeg) → (wb_X8_coveredBut_33 K5 h al0 xl1 jv3 xl4 post))))))))))))
set_option maxRecDepth 100000 in
theorem tb_X8_coveredBut_5 {G : GG} {p : Program} {l : Launch} {e : Env} {R : Room} {s : State} {m : MethodId} {args : Array Value} {below : List Frame} {meth : Method} {c : Code} {n0 s0 : Nat} {post : AH → Int64 → Prop} (C : Cx G p R s m args meth c 5 cX8_coveredBut RX8 n0 s0 0 0) (hr : meth.sig.returnType = (some .long)) {K5 : AH → Nat → Int32 → Int64 → Int32 → Prop} (hK5 : ∀ (h : AH) (al0 : Nat) (xl1 : Int32) (zl2 : Int64) (xl4 : Int32), K5 h al0 xl1 zl2 xl4 → AW G p l e R s m args below meth c 5 (QM G (pJ post) args s below n0 s0) 5 [(0, .ref (G.1 + al0)), (1, .int xl1), (2, .long zl2), (4, .int xl4)] [] h) {h : AH} {al0 : Nat} {xl1 : Int32} {zl2 : Int64} {xl4 : Int32}  (hw : wb_X8_coveredBut_5 K5 h al0 xl1 zl2 xl4 post) : AW G p l e R s m args below meth c 5 (QM G (pJ post) args s below n0 s0) 5 [(0, .ref (G.1 + al0)), (1, .int xl1), (2, .long zl2), (4, .int xl4)] [] h := by
  unfold wb_X8_coveredBut_5 at hw
  refine r_iload C dX8_coveredBut_5 3 rfl ?_
  refine r_aload_n C dX8_coveredBut_7 0 rfl ?_
  have hob := hw.1
  obtain ⟨rv1, hp, hw⟩ := hw.2
  refine r_getP C fl_RX8_19_7 hob hp (fun _ _ _ => rfl) dX8_coveredBut_8 ?_
  refine r_getI C fl_RX8_23_1 hw.1 (fun _ _ _ => rfl) dX8_coveredBut_11 ?_
  replace hw := hw.2
  refine r_icmp_ge C dX8_coveredBut_14 39 (by decide) (fun hc => ?_) (fun hc => ?_)
  · replace hw := hw.1 hc
    refine r_lload_n C dX8_coveredBut_39 2 rfl ?_
    exact r_lret C hr dX8_coveredBut_40 hw
  · replace hw := hw.2 hc
    refine r_iload C dX8_coveredBut_17 3 rfl ?_
    refine r_iload_n C dX8_coveredBut_19 1 rfl ?_
    refine r_icmp_eq C dX8_coveredBut_20 33 (by decide) (fun hc => ?_) (fun hc => ?_)
    · replace hw := hw.1 hc
      refine r_sub [0, 1, 2, 3] rfl ?_
      exact tb_X8_coveredBut_33 C hr hK5 hw
    · replace hw := hw.2 hc
      refine r_lload_n C dX8_coveredBut_23 2 rfl ?_
      refine r_aload_n C dX8_coveredBut_24 0 rfl ?_
      have hob := hw.1
      obtain ⟨rv2, hp, hw⟩ := hw.2
      refine r_getP C fl_RX8_15_7 hob hp (fun _ _ _ => rfl) dX8_coveredBut_25 ?_
      refine r_iload C dX8_coveredBut_28 3 rfl ?_
      refine r_laload C hw.1 hw.2.1 dX8_coveredBut_30 ?_
      replace hw := hw.2.2
      refine r_lor C dX8_coveredBut_31 ?_
      refine r_topl fun jv3 ejv3 => ?_
      replace hw := hw jv3 ejv3
      refine r_lstore_n C dX8_coveredBut_32 [(2, .long jv3), (0, .ref (G.1 + al0)), (1, .int xl1), (4, .int xl4)] (by decide) rfl ?_
      refine r_sub [1, 2, 0, 3] rfl ?_
      exact tb_X8_coveredBut_33 C hr hK5 hw
def wl_X8_coveredBut_5  (post : AH → Int64 → Prop) : Nat → AH → Nat → Int32 → Int64 → Int32 → Prop
  | 0 => fun _ _ _ _ _ => False
  | n + 1 => fun h al0 xl1 zl2 xl4 => wb_X8_coveredBut_5  (wl_X8_coveredBut_5  post n) h al0 xl1 zl2 xl4 post
theorem tl_X8_coveredBut_5 {G : GG} {p : Program} {l : Launch} {e : Env} {R : Room} {s : State} {m : MethodId} {args : Array Value} {below : List Frame} {meth : Method} {c : Code} {n0 s0 : Nat} {post : AH → Int64 → Prop} (C : Cx G p R s m args meth c 5 cX8_coveredBut RX8 n0 s0 0 0) (hr : meth.sig.returnType = (some .long))   : ∀ (n : Nat) (h : AH) (al0 : Nat) (xl1 : Int32) (zl2 : Int64) (xl4 : Int32), wl_X8_coveredBut_5  post n h al0 xl1 zl2 xl4 → AW G p l e R s m args below meth c 5 (QM G (pJ post) args s below n0 s0) 5 [(0, .ref (G.1 + al0)), (1, .int xl1), (2, .long zl2), (4, .int xl4)] [] h := by
  intro n
  induction n with
  | zero => intro h al0 xl1 zl2 xl4 hw; exact hw.elim
  | succ n ih => intro h al0 xl1 zl2 xl4 hw; exact tb_X8_coveredBut_5 C hr  ih hw
def wp_X8_coveredBut (h : AH) (a0 : Nat) (x1 : Int32) (post : AH → Int64 → Prop) : Prop := ∃ n, wl_X8_coveredBut_5  post n h a0 x1 0 0
set_option maxRecDepth 100000 in
theorem c_X8_coveredBut (G : GG) (h : AH) (a0 : Nat) (x1 : Int32) (post : AH → Int64 → Prop) (hw : wp_X8_coveredBut h a0 x1 post) : MC G yX8_coveredBut cX8_coveredBut 5 (some .long) 0 0 h [.ref (G.1 + a0), .int x1] (pJ post) := by
  refine MC.of (lv := [(0, .ref (G.1 + a0)), (1, .int x1)]) (by decide) (Nat.le_of_ble_eq_true rfl) rfl fun p l e R s m args below meth c C hr hnm => ?_
  unfold wp_X8_coveredBut at hw
  refine r_lconst (v := 0) C dX8_coveredBut_0 (by decide) ?_
  refine r_lstore_n C dX8_coveredBut_1 [(2, .long 0), (0, .ref (G.1 + a0)), (1, .int x1)] (by decide) rfl ?_
  refine r_iconst (v := 0) C dX8_coveredBut_2 (by decide) ?_
  refine r_istore C dX8_coveredBut_3 [(4, .int 0), (2, .long 0), (0, .ref (G.1 + a0)), (1, .int x1)] (by decide) rfl ?_
  refine r_sub [2, 3, 1, 0] rfl ?_
  obtain ⟨n, hw⟩ := hw
  exact tl_X8_coveredBut_5 C hr  n _ _ _ _ _ hw
theorem dX8_ropesReach_0 : decode cX8_ropesReach 0 = .ok (.aload_n 0, 1) := by decide +kernel
theorem dX8_ropesReach_1 : decode cX8_ropesReach 1 = .ok (.getfield 19, 3) := by decide +kernel
theorem dX8_ropesReach_4 : decode cX8_ropesReach 4 = .ok (.getfield 61, 3) := by decide +kernel
theorem dX8_ropesReach_7 : decode cX8_ropesReach 7 = .ok (.astore_n 3, 1) := by decide +kernel
theorem dX8_ropesReach_8 : decode cX8_ropesReach 8 = .ok (.iconst 0, 1) := by decide +kernel
theorem dX8_ropesReach_9 : decode cX8_ropesReach 9 = .ok (.istore 4, 2) := by decide +kernel
theorem dX8_ropesReach_11 : decode cX8_ropesReach 11 = .ok (.iload 4, 2) := by decide +kernel
theorem dX8_ropesReach_13 : decode cX8_ropesReach 13 = .ok (.aload_n 3, 1) := by decide +kernel
theorem dX8_ropesReach_14 : decode cX8_ropesReach 14 = .ok (.getfield 65, 3) := by decide +kernel
theorem dX8_ropesReach_17 : decode cX8_ropesReach 17 = .ok (.if_icmp .ge 80, 3) := by decide +kernel
theorem dX8_ropesReach_20 : decode cX8_ropesReach 20 = .ok (.aload_n 3, 1) := by decide +kernel
theorem dX8_ropesReach_21 : decode cX8_ropesReach 21 = .ok (.getfield 70, 3) := by decide +kernel
theorem dX8_ropesReach_24 : decode cX8_ropesReach 24 = .ok (.iload 4, 2) := by decide +kernel
theorem dX8_ropesReach_26 : decode cX8_ropesReach 26 = .ok (.iaload, 1) := by decide +kernel
theorem dX8_ropesReach_27 : decode cX8_ropesReach 27 = .ok (.iload_n 1, 1) := by decide +kernel
theorem dX8_ropesReach_28 : decode cX8_ropesReach 28 = .ok (.if_icmp .eq 14, 3) := by decide +kernel
theorem dX8_ropesReach_31 : decode cX8_ropesReach 31 = .ok (.aload_n 3, 1) := by decide +kernel
theorem dX8_ropesReach_32 : decode cX8_ropesReach 32 = .ok (.getfield 73, 3) := by decide +kernel
theorem dX8_ropesReach_35 : decode cX8_ropesReach 35 = .ok (.iload 4, 2) := by decide +kernel
theorem dX8_ropesReach_37 : decode cX8_ropesReach 37 = .ok (.iaload, 1) := by decide +kernel
theorem dX8_ropesReach_38 : decode cX8_ropesReach 38 = .ok (.iload_n 1, 1) := by decide +kernel
theorem dX8_ropesReach_39 : decode cX8_ropesReach 39 = .ok (.if_icmp .ne 52, 3) := by decide +kernel
theorem dX8_ropesReach_42 : decode cX8_ropesReach 42 = .ok (.aload_n 3, 1) := by decide +kernel
theorem dX8_ropesReach_43 : decode cX8_ropesReach 43 = .ok (.getfield 70, 3) := by decide +kernel
theorem dX8_ropesReach_46 : decode cX8_ropesReach 46 = .ok (.iload 4, 2) := by decide +kernel
theorem dX8_ropesReach_48 : decode cX8_ropesReach 48 = .ok (.iaload, 1) := by decide +kernel
theorem dX8_ropesReach_49 : decode cX8_ropesReach 49 = .ok (.aload_n 3, 1) := by decide +kernel
theorem dX8_ropesReach_50 : decode cX8_ropesReach 50 = .ok (.getfield 73, 3) := by decide +kernel
theorem dX8_ropesReach_53 : decode cX8_ropesReach 53 = .ok (.iload 4, 2) := by decide +kernel
theorem dX8_ropesReach_55 : decode cX8_ropesReach 55 = .ok (.iaload, 1) := by decide +kernel
theorem dX8_ropesReach_56 : decode cX8_ropesReach 56 = .ok (.iadd, 1) := by decide +kernel
theorem dX8_ropesReach_57 : decode cX8_ropesReach 57 = .ok (.iload_n 1, 1) := by decide +kernel
theorem dX8_ropesReach_58 : decode cX8_ropesReach 58 = .ok (.isub, 1) := by decide +kernel
theorem dX8_ropesReach_59 : decode cX8_ropesReach 59 = .ok (.istore 5, 2) := by decide +kernel
theorem dX8_ropesReach_61 : decode cX8_ropesReach 61 = .ok (.aload_n 0, 1) := by decide +kernel
theorem dX8_ropesReach_62 : decode cX8_ropesReach 62 = .ok (.getfield 19, 3) := by decide +kernel
theorem dX8_ropesReach_65 : decode cX8_ropesReach 65 = .ok (.iload_n 1, 1) := by decide +kernel
theorem dX8_ropesReach_66 : decode cX8_ropesReach 66 = .ok (.iload_n 2, 1) := by decide +kernel
theorem dX8_ropesReach_67 : decode cX8_ropesReach 67 = .ok (.iload 5, 2) := by decide +kernel
theorem dX8_ropesReach_69 : decode cX8_ropesReach 69 = .ok (.aload_n 0, 1) := by decide +kernel
theorem dX8_ropesReach_70 : decode cX8_ropesReach 70 = .ok (.getfield 9, 3) := by decide +kernel
theorem dX8_ropesReach_73 : decode cX8_ropesReach 73 = .ok (.iload 5, 2) := by decide +kernel
theorem dX8_ropesReach_75 : decode cX8_ropesReach 75 = .ok (.iaload, 1) := by decide +kernel
theorem dX8_ropesReach_76 : decode cX8_ropesReach 76 = .ok (.invokevirtual 76, 3) := by decide +kernel
theorem dX8_ropesReach_79 : decode cX8_ropesReach 79 = .ok (.aload_n 3, 1) := by decide +kernel
theorem dX8_ropesReach_80 : decode cX8_ropesReach 80 = .ok (.getfield 80, 3) := by decide +kernel
theorem dX8_ropesReach_83 : decode cX8_ropesReach 83 = .ok (.iload 4, 2) := by decide +kernel
theorem dX8_ropesReach_85 : decode cX8_ropesReach 85 = .ok (.iaload, 1) := by decide +kernel
theorem dX8_ropesReach_86 : decode cX8_ropesReach 86 = .ok (.if_icmp .le 5, 3) := by decide +kernel
theorem dX8_ropesReach_89 : decode cX8_ropesReach 89 = .ok (.iconst 0, 1) := by decide +kernel
theorem dX8_ropesReach_90 : decode cX8_ropesReach 90 = .ok (.ireturn, 1) := by decide +kernel
theorem dX8_ropesReach_91 : decode cX8_ropesReach 91 = .ok (.iinc 4 1, 3) := by decide +kernel
theorem dX8_ropesReach_94 : decode cX8_ropesReach 94 = .ok (.goto (-83), 3) := by decide +kernel
theorem dX8_ropesReach_97 : decode cX8_ropesReach 97 = .ok (.iconst 1, 1) := by decide +kernel
theorem dX8_ropesReach_98 : decode cX8_ropesReach 98 = .ok (.ireturn, 1) := by decide +kernel
def wb_X8_ropesReach_91 (K11 : AH → Nat → Int32 → Int32 → Nat → Int32 → Prop) (h : AH) (al0 : Nat) (xl1 : Int32) (xl2 : Int32) (al3 : Nat) (xl4 : Int32)  (post : AH → Int32 → Prop) : Prop := ∀ iv1 : Int32, iv1 = xl4 + 1 → (K11 h al0 xl1 xl2 al3 iv1)
set_option maxRecDepth 100000 in
theorem tb_X8_ropesReach_91 {G : GG} {p : Program} {l : Launch} {e : Env} {R : Room} {s : State} {m : MethodId} {args : Array Value} {below : List Frame} {meth : Method} {c : Code} {n0 s0 : Nat} {post : AH → Int32 → Prop} (C : Cx G p R s m args meth c 6 cX8_ropesReach RX8 n0 s0 2 52) (hr : meth.sig.returnType = (some .boolean)) {K11 : AH → Nat → Int32 → Int32 → Nat → Int32 → Prop} (hK11 : ∀ (h : AH) (al0 : Nat) (xl1 : Int32) (xl2 : Int32) (al3 : Nat) (xl4 : Int32), K11 h al0 xl1 xl2 al3 xl4 → AW G p l e R s m args below meth c 6 (QM G (pI post) args s below n0 s0) 11 [(0, .ref (G.1 + al0)), (1, .int xl1), (2, .int xl2), (3, .ref (G.1 + al3)), (4, .int xl4)] [] h) {h : AH} {al0 : Nat} {xl1 : Int32} {xl2 : Int32} {al3 : Nat} {xl4 : Int32}  (hw : wb_X8_ropesReach_91 K11 h al0 xl1 xl2 al3 xl4 post) : AW G p l e R s m args below meth c 6 (QM G (pI post) args s below n0 s0) 91 [(0, .ref (G.1 + al0)), (1, .int xl1), (2, .int xl2), (3, .ref (G.1 + al3)), (4, .int xl4)] [] h := by
  unfold wb_X8_ropesReach_91 at hw
  obtain ⟨iv1, eiv1⟩ : ∃ q : Int32, q = xl4 + 1 := ⟨_, rfl⟩
  replace hw := hw iv1 eiv1
  refine r_iinc C dX8_ropesReach_91 4 rfl (by rw [eiv1]; rfl) [(4, .int iv1), (0, .ref (G.1 + al0)), (1, .int xl1), (2, .int xl2), (3, .ref (G.1 + al3))] (by decide) rfl ?_
  refine r_goto C dX8_ropesReach_94 11 (by decide) ?_
  refine r_sub [1, 2, 3, 4, 0] rfl ?_
  exact hK11 _ _ _ _ _ _ hw
def wb_X8_ropesReach_42 (K11 : AH → Nat → Int32 → Int32 → Nat → Int32 → Prop) (h : AH) (al0 : Nat) (xl1 : Int32) (xl2 : Int32) (al3 : Nat) (xl4 : Int32)  (post : AH → Int32 → Prop) : Prop := (ob h al3 4) ∧ (∃ rv1, aP h al3 1 = some rv1 ∧ ((ob h rv1 13) ∧ ((vp_in xl4 (aL h rv1)) ∧ ((ob h al3 4) ∧ (∃ rv2, aP h al3 2 = some rv2 ∧ ((ob h rv2 13) ∧ ((vp_in xl4 (aL h rv2)) ∧ (∀ iv3 : Int32, iv3 = ((aI h rv1 xl4.toNatClampNeg) + (aI h rv2 xl4.toNatClampNeg)) - xl1 → ((ob h al0 7) ∧ (∃ rv4, aP h al0 0 = some rv4 ∧ ((ob h al0 7) ∧ (∃ rv5, aP h al0 1 = some rv5 ∧ ((ob h rv5 13) ∧ ((vp_in iv3 (aL h rv5)) ∧ ((ob h rv4 1) ∧ wp_X1_between h rv4 xl1 xl2 iv3 (aI h rv5 iv3.toNatClampNeg) (fun hv6 iv7 => (ob hv6 al3 4) ∧ (∃ rv8, aP hv6 al3 3 = some rv8 ∧ ((ob hv6 rv8 13) ∧ ((vp_in xl4 (aL hv6 rv8)) ∧ ((iv7 ≤ (aI hv6 rv8 xl4.toNatClampNeg) → (wb_X8_ropesReach_91 K11 hv6 al0 xl1 xl2 al3 xl4 post)) ∧ (¬ iv7 ≤ (aI hv6 rv8 xl4.toNatClampNeg) → (((0 : Int32) = 0 ∨ (0 : Int32) = 1) ∧ post hv6 0))))))))))))))))))))))
set_option maxRecDepth 100000 in
theorem tb_X8_ropesReach_42 {G : GG} {p : Program} {l : Launch} {e : Env} {R : Room} {s : State} {m : MethodId} {args : Array Value} {below : List Frame} {meth : Method} {c : Code} {n0 s0 : Nat} {post : AH → Int32 → Prop} (C : Cx G p R s m args meth c 6 cX8_ropesReach RX8 n0 s0 2 52) (hr : meth.sig.returnType = (some .boolean)) {K11 : AH → Nat → Int32 → Int32 → Nat → Int32 → Prop} (hK11 : ∀ (h : AH) (al0 : Nat) (xl1 : Int32) (xl2 : Int32) (al3 : Nat) (xl4 : Int32), K11 h al0 xl1 xl2 al3 xl4 → AW G p l e R s m args below meth c 6 (QM G (pI post) args s below n0 s0) 11 [(0, .ref (G.1 + al0)), (1, .int xl1), (2, .int xl2), (3, .ref (G.1 + al3)), (4, .int xl4)] [] h) {h : AH} {al0 : Nat} {xl1 : Int32} {xl2 : Int32} {al3 : Nat} {xl4 : Int32}  (hw : wb_X8_ropesReach_42 K11 h al0 xl1 xl2 al3 xl4 post) : AW G p l e R s m args below meth c 6 (QM G (pI post) args s below n0 s0) 42 [(0, .ref (G.1 + al0)), (1, .int xl1), (2, .int xl2), (3, .ref (G.1 + al3)), (4, .int xl4)] [] h := by
  unfold wb_X8_ropesReach_42 at hw
  refine r_aload_n C dX8_ropesReach_42 3 rfl ?_
  have hob := hw.1
  obtain ⟨rv1, hp, hw⟩ := hw.2
  refine r_getP C fl_RX8_70_4 hob hp (fun _ _ _ => rfl) dX8_ropesReach_43 ?_
  refine r_iload C dX8_ropesReach_46 4 rfl ?_
  refine r_iaload C hw.1 hw.2.1 dX8_ropesReach_48 ?_
  replace hw := hw.2.2
  refine r_aload_n C dX8_ropesReach_49 3 rfl ?_
  have hob := hw.1
  obtain ⟨rv2, hp, hw⟩ := hw.2
  refine r_getP C fl_RX8_73_4 hob hp (fun _ _ _ => rfl) dX8_ropesReach_50 ?_
  refine r_iload C dX8_ropesReach_53 4 rfl ?_
  refine r_iaload C hw.1 hw.2.1 dX8_ropesReach_55 ?_
  replace hw := hw.2.2
  refine r_iadd C dX8_ropesReach_56 ?_
  refine r_iload_n C dX8_ropesReach_57 1 rfl ?_
  refine r_isub C dX8_ropesReach_58 ?_
  refine r_topi fun iv3 eiv3 => ?_
  replace hw := hw iv3 eiv3
  refine r_istore C dX8_ropesReach_59 [(5, .int iv3), (0, .ref (G.1 + al0)), (1, .int xl1), (2, .int xl2), (3, .ref (G.1 + al3)), (4, .int xl4)] (by decide) rfl ?_
  refine r_aload_n C dX8_ropesReach_61 1 rfl ?_
  have hob := hw.1
  obtain ⟨rv4, hp, hw⟩ := hw.2
  refine r_getP C fl_RX8_19_7 hob hp (fun _ _ _ => rfl) dX8_ropesReach_62 ?_
  refine r_iload_n C dX8_ropesReach_65 2 rfl ?_
  refine r_iload_n C dX8_ropesReach_66 3 rfl ?_
  refine r_iload C dX8_ropesReach_67 0 rfl ?_
  refine r_aload_n C dX8_ropesReach_69 1 rfl ?_
  have hob := hw.1
  obtain ⟨rv5, hp, hw⟩ := hw.2
  refine r_getP C fl_RX8_9_7 hob hp (fun _ _ _ => rfl) dX8_ropesReach_70 ?_
  refine r_iload C dX8_ropesReach_73 0 rfl ?_
  refine r_iaload C hw.1 hw.2.1 dX8_ropesReach_75 ?_
  replace hw := hw.2.2
  have hob := hw.1
  replace hw := hw.2
  refine r_callV C (As := [.int xl1, .int xl2, .int iv3, .int (aI h rv5 iv3.toNatClampNeg)]) (rest := []) (c_X1_between G h rv4 xl1 xl2 iv3 (aI h rv5 iv3.toNatClampNeg) _ hw) yl_X1_between (gm4 (List.mem_of_getElem? (i := 188) rfl) rfl) (gm4 (List.mem_of_getElem? (i := 10) rfl) rfl) (ci := 1) rfl (by decide) (gm4 (List.mem_of_getElem? (i := 11) rfl) rfl) hob (by decide) rfl (Nat.le_of_ble_eq_true rfl) dX8_ropesReach_76 rfl (kI fun hv6 iv7 hw => ?_)
  refine r_aload_n C dX8_ropesReach_79 4 rfl ?_
  have hob := hw.1
  obtain ⟨rv8, hp, hw⟩ := hw.2
  refine r_getP C fl_RX8_80_4 hob hp (fun _ _ _ => rfl) dX8_ropesReach_80 ?_
  refine r_iload C dX8_ropesReach_83 5 rfl ?_
  refine r_iaload C hw.1 hw.2.1 dX8_ropesReach_85 ?_
  replace hw := hw.2.2
  refine r_icmp_le C dX8_ropesReach_86 91 (by decide) (fun hc => ?_) (fun hc => ?_)
  · replace hw := hw.1 hc
    refine r_sub [1, 2, 3, 4, 5] rfl ?_
    exact tb_X8_ropesReach_91 C hr hK11 hw
  · replace hw := hw.2 hc
    refine r_iconst (v := 0) C dX8_ropesReach_89 (by decide) ?_
    exact r_zret C hr dX8_ropesReach_90 hw.1 hw.2
def wb_X8_ropesReach_11 (K11 : AH → Nat → Int32 → Int32 → Nat → Int32 → Prop) (h : AH) (al0 : Nat) (xl1 : Int32) (xl2 : Int32) (al3 : Nat) (xl4 : Int32)  (post : AH → Int32 → Prop) : Prop := (ob h al3 4) ∧ (((aI h al3 0) ≤ xl4 → (((1 : Int32) = 0 ∨ (1 : Int32) = 1) ∧ post h 1)) ∧ (¬ (aI h al3 0) ≤ xl4 → ((ob h al3 4) ∧ (∃ rv1, aP h al3 1 = some rv1 ∧ ((ob h rv1 13) ∧ ((vp_in xl4 (aL h rv1)) ∧ (((aI h rv1 xl4.toNatClampNeg) = xl1 → (wb_X8_ropesReach_42 K11 h al0 xl1 xl2 al3 xl4 post)) ∧ (¬ (aI h rv1 xl4.toNatClampNeg) = xl1 → ((ob h al3 4) ∧ (∃ rv2, aP h al3 2 = some rv2 ∧ ((ob h rv2 13) ∧ ((vp_in xl4 (aL h rv2)) ∧ ((¬ (aI h rv2 xl4.toNatClampNeg) = xl1 → (wb_X8_ropesReach_91 K11 h al0 xl1 xl2 al3 xl4 post)) ∧ ((aI h rv2 xl4.toNatClampNeg) = xl1 → (wb_X8_ropesReach_42 K11 h al0 xl1 xl2 al3 xl4 post)))))))))))))))
set_option maxRecDepth 100000 in
theorem tb_X8_ropesReach_11 {G : GG} {p : Program} {l : Launch} {e : Env} {R : Room} {s : State} {m : MethodId} {args : Array Value} {below : List Frame} {meth : Method} {c : Code} {n0 s0 : Nat} {post : AH → Int32 → Prop} (C : Cx G p R s m args meth c 6 cX8_ropesReach RX8 n0 s0 2 52) (hr : meth.sig.returnType = (some .boolean)) {K11 : AH → Nat → Int32 → Int32 → Nat → Int32 → Prop} (hK11 : ∀ (h : AH) (al0 : Nat) (xl1 : Int32) (xl2 : Int32) (al3 : Nat) (xl4 : Int32), K11 h al0 xl1 xl2 al3 xl4 → AW G p l e R s m args below meth c 6 (QM G (pI post) args s below n0 s0) 11 [(0, .ref (G.1 + al0)), (1, .int xl1), (2, .int xl2), (3, .ref (G.1 + al3)), (4, .int xl4)] [] h) {h : AH} {al0 : Nat} {xl1 : Int32} {xl2 : Int32} {al3 : Nat} {xl4 : Int32}  (hw : wb_X8_ropesReach_11 K11 h al0 xl1 xl2 al3 xl4 post) : AW G p l e R s m args below meth c 6 (QM G (pI post) args s below n0 s0) 11 [(0, .ref (G.1 + al0)), (1, .int xl1), (2, .int xl2), (3, .ref (G.1 + al3)), (4, .int xl4)] [] h := by
  unfold wb_X8_ropesReach_11 at hw
  refine r_iload C dX8_ropesReach_11 4 rfl ?_
  refine r_aload_n C dX8_ropesReach_13 3 rfl ?_
  refine r_getI C fl_RX8_65_4 hw.1 (fun _ _ _ => rfl) dX8_ropesReach_14 ?_
  replace hw := hw.2
  refine r_icmp_ge C dX8_ropesReach_17 97 (by decide) (fun hc => ?_) (fun hc => ?_)
  · replace hw := hw.1 hc
    refine r_iconst (v := 1) C dX8_ropesReach_97 (by decide) ?_
    exact r_zret C hr dX8_ropesReach_98 hw.1 hw.2
  · replace hw := hw.2 hc
    refine r_aload_n C dX8_ropesReach_20 3 rfl ?_
    have hob := hw.1
    obtain ⟨rv1, hp, hw⟩ := hw.2
    refine r_getP C fl_RX8_70_4 hob hp (fun _ _ _ => rfl) dX8_ropesReach_21 ?_
    refine r_iload C dX8_ropesReach_24 4 rfl ?_
    refine r_iaload C hw.1 hw.2.1 dX8_ropesReach_26 ?_
    replace hw := hw.2.2
    refine r_iload_n C dX8_ropesReach_27 1 rfl ?_
    refine r_icmp_eq C dX8_ropesReach_28 42 (by decide) (fun hc => ?_) (fun hc => ?_)
    · replace hw := hw.1 hc
      refine r_sub [0, 1, 2, 3, 4] rfl ?_
      exact tb_X8_ropesReach_42 C hr hK11 hw
    · replace hw := hw.2 hc
      refine r_aload_n C dX8_ropesReach_31 3 rfl ?_
      have hob := hw.1
      obtain ⟨rv2, hp, hw⟩ := hw.2
      refine r_getP C fl_RX8_73_4 hob hp (fun _ _ _ => rfl) dX8_ropesReach_32 ?_
      refine r_iload C dX8_ropesReach_35 4 rfl ?_
      refine r_iaload C hw.1 hw.2.1 dX8_ropesReach_37 ?_
      replace hw := hw.2.2
      refine r_iload_n C dX8_ropesReach_38 1 rfl ?_
      refine r_icmp_ne C dX8_ropesReach_39 91 (by decide) (fun hc => ?_) (fun hc => ?_)
      · replace hw := hw.1 hc
        refine r_sub [0, 1, 2, 3, 4] rfl ?_
        exact tb_X8_ropesReach_91 C hr hK11 hw
      · replace hw := hw.2 hc
        refine r_sub [0, 1, 2, 3, 4] rfl ?_
        exact tb_X8_ropesReach_42 C hr hK11 hw
def wl_X8_ropesReach_11  (post : AH → Int32 → Prop) : Nat → AH → Nat → Int32 → Int32 → Nat → Int32 → Prop
  | 0 => fun _ _ _ _ _ _ => False
  | n + 1 => fun h al0 xl1 xl2 al3 xl4 => wb_X8_ropesReach_11  (wl_X8_ropesReach_11  post n) h al0 xl1 xl2 al3 xl4 post
theorem tl_X8_ropesReach_11 {G : GG} {p : Program} {l : Launch} {e : Env} {R : Room} {s : State} {m : MethodId} {args : Array Value} {below : List Frame} {meth : Method} {c : Code} {n0 s0 : Nat} {post : AH → Int32 → Prop} (C : Cx G p R s m args meth c 6 cX8_ropesReach RX8 n0 s0 2 52) (hr : meth.sig.returnType = (some .boolean))   : ∀ (n : Nat) (h : AH) (al0 : Nat) (xl1 : Int32) (xl2 : Int32) (al3 : Nat) (xl4 : Int32), wl_X8_ropesReach_11  post n h al0 xl1 xl2 al3 xl4 → AW G p l e R s m args below meth c 6 (QM G (pI post) args s below n0 s0) 11 [(0, .ref (G.1 + al0)), (1, .int xl1), (2, .int xl2), (3, .ref (G.1 + al3)), (4, .int xl4)] [] h := by
  intro n
  induction n with
  | zero => intro h al0 xl1 xl2 al3 xl4 hw; exact hw.elim
  | succ n ih => intro h al0 xl1 xl2 al3 xl4 hw; exact tb_X8_ropesReach_11 C hr  ih hw
def wp_X8_ropesReach (h : AH) (a0 : Nat) (x1 : Int32) (x2 : Int32) (post : AH → Int32 → Prop) : Prop := (ob h a0 7) ∧ (∃ rv1, aP h a0 0 = some rv1 ∧ ((ob h rv1 1) ∧ (∃ rv2, aP h rv1 14 = some rv2 ∧ (∃ n, wl_X8_ropesReach_11  post n h a0 x1 x2 rv2 0))))
set_option maxRecDepth 100000 in
theorem c_X8_ropesReach (G : GG) (h : AH) (a0 : Nat) (x1 : Int32) (x2 : Int32) (post : AH → Int32 → Prop) (hw : wp_X8_ropesReach h a0 x1 x2 post) : MC G yX8_ropesReach cX8_ropesReach 6 (some .boolean) 2 52 h [.ref (G.1 + a0), .int x1, .int x2] (pI post) := by
  refine MC.of (lv := [(0, .ref (G.1 + a0)), (1, .int x1), (2, .int x2)]) (by decide) (Nat.le_of_ble_eq_true rfl) rfl fun p l e R s m args below meth c C hr hnm => ?_
  unfold wp_X8_ropesReach at hw
  refine r_aload_n C dX8_ropesReach_0 0 rfl ?_
  have hob := hw.1
  obtain ⟨rv1, hp, hw⟩ := hw.2
  refine r_getP C fl_RX8_19_7 hob hp (fun _ _ _ => rfl) dX8_ropesReach_1 ?_
  have hob := hw.1
  obtain ⟨rv2, hp, hw⟩ := hw.2
  refine r_getP C fl_RX8_61_1 hob hp (fun _ _ _ => rfl) dX8_ropesReach_4 ?_
  refine r_astore_n C dX8_ropesReach_7 [(3, .ref (G.1 + rv2)), (0, .ref (G.1 + a0)), (1, .int x1), (2, .int x2)] (by decide) rfl ?_
  refine r_iconst (v := 0) C dX8_ropesReach_8 (by decide) ?_
  refine r_istore C dX8_ropesReach_9 [(4, .int 0), (3, .ref (G.1 + rv2)), (0, .ref (G.1 + a0)), (1, .int x1), (2, .int x2)] (by decide) rfl ?_
  refine r_sub [2, 3, 4, 1, 0] rfl ?_
  obtain ⟨n, hw⟩ := hw
  exact tl_X8_ropesReach_11 C hr  n _ _ _ _ _ _ hw
theorem dX8_attempt_0 : decode cX8_attempt 0 = .ok (.aload_n 0, 1) := by decide +kernel
theorem dX8_attempt_1 : decode cX8_attempt 1 = .ok (.getfield 19, 3) := by decide +kernel
theorem dX8_attempt_4 : decode cX8_attempt 4 = .ok (.iload_n 1, 1) := by decide +kernel
theorem dX8_attempt_5 : decode cX8_attempt 5 = .ok (.aload_n 0, 1) := by decide +kernel
theorem dX8_attempt_6 : decode cX8_attempt 6 = .ok (.getfield 15, 3) := by decide +kernel
theorem dX8_attempt_9 : decode cX8_attempt 9 = .ok (.iload_n 1, 1) := by decide +kernel
theorem dX8_attempt_10 : decode cX8_attempt 10 = .ok (.laload, 1) := by decide +kernel
theorem dX8_attempt_11 : decode cX8_attempt 11 = .ok (.iload_n 3, 1) := by decide +kernel
theorem dX8_attempt_12 : decode cX8_attempt 12 = .ok (.invokevirtual 83, 3) := by decide +kernel
theorem dX8_attempt_15 : decode cX8_attempt 15 = .ok (.ifCond .ne 5, 3) := by decide +kernel
theorem dX8_attempt_18 : decode cX8_attempt 18 = .ok (.iconst (-1), 1) := by decide +kernel
theorem dX8_attempt_19 : decode cX8_attempt 19 = .ok (.ireturn, 1) := by decide +kernel
theorem dX8_attempt_20 : decode cX8_attempt 20 = .ok (.aload_n 0, 1) := by decide +kernel
theorem dX8_attempt_21 : decode cX8_attempt 21 = .ok (.getfield 19, 3) := by decide +kernel
theorem dX8_attempt_24 : decode cX8_attempt 24 = .ok (.iload_n 1, 1) := by decide +kernel
theorem dX8_attempt_25 : decode cX8_attempt 25 = .ok (.aload_n 0, 1) := by decide +kernel
theorem dX8_attempt_26 : decode cX8_attempt 26 = .ok (.getfield 9, 3) := by decide +kernel
theorem dX8_attempt_29 : decode cX8_attempt 29 = .ok (.iload_n 1, 1) := by decide +kernel
theorem dX8_attempt_30 : decode cX8_attempt 30 = .ok (.iaload, 1) := by decide +kernel
theorem dX8_attempt_31 : decode cX8_attempt 31 = .ok (.iload_n 2, 1) := by decide +kernel
theorem dX8_attempt_32 : decode cX8_attempt 32 = .ok (.invokevirtual 87, 3) := by decide +kernel
theorem dX8_attempt_35 : decode cX8_attempt 35 = .ok (.istore 4, 2) := by decide +kernel
theorem dX8_attempt_37 : decode cX8_attempt 37 = .ok (.iload 4, 2) := by decide +kernel
theorem dX8_attempt_39 : decode cX8_attempt 39 = .ok (.ifCond .ge 6, 3) := by decide +kernel
theorem dX8_attempt_42 : decode cX8_attempt 42 = .ok (.iload 4, 2) := by decide +kernel
theorem dX8_attempt_44 : decode cX8_attempt 44 = .ok (.ireturn, 1) := by decide +kernel
theorem dX8_attempt_45 : decode cX8_attempt 45 = .ok (.aload_n 0, 1) := by decide +kernel
theorem dX8_attempt_46 : decode cX8_attempt 46 = .ok (.getfield 19, 3) := by decide +kernel
theorem dX8_attempt_49 : decode cX8_attempt 49 = .ok (.iload_n 1, 1) := by decide +kernel
theorem dX8_attempt_50 : decode cX8_attempt 50 = .ok (.iload 4, 2) := by decide +kernel
theorem dX8_attempt_52 : decode cX8_attempt 52 = .ok (.invokevirtual 42, 3) := by decide +kernel
theorem dX8_attempt_55 : decode cX8_attempt 55 = .ok (.lstore 5, 2) := by decide +kernel
theorem dX8_attempt_57 : decode cX8_attempt 57 = .ok (.lload 5, 2) := by decide +kernel
theorem dX8_attempt_59 : decode cX8_attempt 59 = .ok (.aload_n 0, 1) := by decide +kernel
theorem dX8_attempt_60 : decode cX8_attempt 60 = .ok (.iload_n 1, 1) := by decide +kernel
theorem dX8_attempt_61 : decode cX8_attempt 61 = .ok (.invokevirtual 90, 3) := by decide +kernel
theorem dX8_attempt_64 : decode cX8_attempt 64 = .ok (.land, 1) := by decide +kernel
theorem dX8_attempt_65 : decode cX8_attempt 65 = .ok (.lconst 0, 1) := by decide +kernel
theorem dX8_attempt_66 : decode cX8_attempt 66 = .ok (.lcmp, 1) := by decide +kernel
theorem dX8_attempt_67 : decode cX8_attempt 67 = .ok (.ifCond .eq 6, 3) := by decide +kernel
theorem dX8_attempt_70 : decode cX8_attempt 70 = .ok (.bipush (-4), 2) := by decide +kernel
theorem dX8_attempt_72 : decode cX8_attempt 72 = .ok (.ireturn, 1) := by decide +kernel
theorem dX8_attempt_73 : decode cX8_attempt 73 = .ok (.aload_n 0, 1) := by decide +kernel
theorem dX8_attempt_74 : decode cX8_attempt 74 = .ok (.getfield 19, 3) := by decide +kernel
theorem dX8_attempt_77 : decode cX8_attempt 77 = .ok (.iload_n 1, 1) := by decide +kernel
theorem dX8_attempt_78 : decode cX8_attempt 78 = .ok (.lload 5, 2) := by decide +kernel
theorem dX8_attempt_80 : decode cX8_attempt 80 = .ok (.iload_n 3, 1) := by decide +kernel
theorem dX8_attempt_81 : decode cX8_attempt 81 = .ok (.invokevirtual 83, 3) := by decide +kernel
theorem dX8_attempt_84 : decode cX8_attempt 84 = .ok (.ifCond .ne 6, 3) := by decide +kernel
theorem dX8_attempt_87 : decode cX8_attempt 87 = .ok (.bipush (-5), 2) := by decide +kernel
theorem dX8_attempt_89 : decode cX8_attempt 89 = .ok (.ireturn, 1) := by decide +kernel
theorem dX8_attempt_90 : decode cX8_attempt 90 = .ok (.aload_n 0, 1) := by decide +kernel
theorem dX8_attempt_91 : decode cX8_attempt 91 = .ok (.iload_n 1, 1) := by decide +kernel
theorem dX8_attempt_92 : decode cX8_attempt 92 = .ok (.iload 4, 2) := by decide +kernel
theorem dX8_attempt_94 : decode cX8_attempt 94 = .ok (.invokevirtual 94, 3) := by decide +kernel
theorem dX8_attempt_97 : decode cX8_attempt 97 = .ok (.ifCond .eq 8, 3) := by decide +kernel
theorem dX8_attempt_100 : decode cX8_attempt 100 = .ok (.iload 4, 2) := by decide +kernel
theorem dX8_attempt_102 : decode cX8_attempt 102 = .ok (.goto 5, 3) := by decide +kernel
theorem dX8_attempt_105 : decode cX8_attempt 105 = .ok (.bipush (-6), 2) := by decide +kernel
theorem dX8_attempt_107 : decode cX8_attempt 107 = .ok (.ireturn, 1) := by decide +kernel
def wp_X8_attempt (h : AH) (a0 : Nat) (x1 : Int32) (x2 : Int32) (x3 : Int32) (post : AH → Int32 → Prop) : Prop := (ob h a0 7) ∧ (∃ rv1, aP h a0 0 = some rv1 ∧ ((ob h a0 7) ∧ (∃ rv2, aP h a0 2 = some rv2 ∧ ((ob h rv2 14) ∧ ((vp_in x1 (aL h rv2)) ∧ ((ob h rv1 1) ∧ wp_X1_carries h rv1 x1 (aJ h rv2 x1.toNatClampNeg) x3 (fun hv3 iv4 => (¬ iv4 = 0 → ((ob hv3 a0 7) ∧ (∃ rv5, aP hv3 a0 0 = some rv5 ∧ ((ob hv3 a0 7) ∧ (∃ rv6, aP hv3 a0 1 = some rv6 ∧ ((ob hv3 rv6 13) ∧ ((vp_in x1 (aL hv3 rv6)) ∧ ((ob hv3 rv5 1) ∧ wp_X1_landing hv3 rv5 x1 (aI hv3 rv6 x1.toNatClampNeg) x2 (fun hv7 iv8 => (0 ≤ iv8 → ((ob hv7 a0 7) ∧ (∃ rv9, aP hv7 a0 0 = some rv9 ∧ ((ob hv7 rv9 1) ∧ wp_X1_coverAt hv7 rv9 x1 iv8 (fun hv10 jv11 => (ob hv10 a0 7) ∧ wp_X8_coveredBut hv10 a0 x1 (fun hv12 jv13 => ((lg_cmp (jv11 &&& jv13) 0) = 0 → ((ob hv12 a0 7) ∧ (∃ rv14, aP hv12 a0 0 = some rv14 ∧ ((ob hv12 rv14 1) ∧ wp_X1_carries hv12 rv14 x1 jv11 x3 (fun hv15 iv16 => (¬ iv16 = 0 → ((ob hv15 a0 7) ∧ wp_X8_ropesReach hv15 a0 x1 iv8 (fun hv17 iv18 => (iv18 = 0 → (post hv17 (-6))) ∧ (¬ iv18 = 0 → (post hv17 iv8))))) ∧ (iv16 = 0 → (post hv15 (-5)))))))) ∧ (¬ (lg_cmp (jv11 &&& jv13) 0) = 0 → (post hv12 (-4))))))))) ∧ (¬ 0 ≤ iv8 → (post hv7 iv8))))))))))) ∧ (iv4 = 0 → (post hv3 (-1))))))))))
set_option maxRecDepth 100000 in
theorem c_X8_attempt (G : GG) (h : AH) (a0 : Nat) (x1 : Int32) (x2 : Int32) (x3 : Int32) (post : AH → Int32 → Prop) (hw : wp_X8_attempt h a0 x1 x2 x3 post) : MC G yX8_attempt cX8_attempt 7 (some .int) 3 77 h [.ref (G.1 + a0), .int x1, .int x2, .int x3] (pI post) := by
  refine MC.of (lv := [(0, .ref (G.1 + a0)), (1, .int x1), (2, .int x2), (3, .int x3)]) (by decide) (Nat.le_of_ble_eq_true rfl) rfl fun p l e R s m args below meth c C hr hnm => ?_
  unfold wp_X8_attempt at hw
  refine r_aload_n C dX8_attempt_0 0 rfl ?_
  have hob := hw.1
  obtain ⟨rv1, hp, hw⟩ := hw.2
  refine r_getP C fl_RX8_19_7 hob hp (fun _ _ _ => rfl) dX8_attempt_1 ?_
  refine r_iload_n C dX8_attempt_4 1 rfl ?_
  refine r_aload_n C dX8_attempt_5 0 rfl ?_
  have hob := hw.1
  obtain ⟨rv2, hp, hw⟩ := hw.2
  refine r_getP C fl_RX8_15_7 hob hp (fun _ _ _ => rfl) dX8_attempt_6 ?_
  refine r_iload_n C dX8_attempt_9 1 rfl ?_
  refine r_laload C hw.1 hw.2.1 dX8_attempt_10 ?_
  replace hw := hw.2.2
  refine r_iload_n C dX8_attempt_11 3 rfl ?_
  have hob := hw.1
  replace hw := hw.2
  refine r_callV C (As := [.int x1, .long (aJ h rv2 x1.toNatClampNeg), .int x3]) (rest := []) (c_X1_carries G h rv1 x1 (aJ h rv2 x1.toNatClampNeg) x3 _ hw) yl_X1_carries (gm4 (List.mem_of_getElem? (i := 167) rfl) rfl) (gm4 (List.mem_of_getElem? (i := 128) rfl) rfl) (ci := 1) rfl (by decide) (gm4 (List.mem_of_getElem? (i := 129) rfl) rfl) hob (by decide) rfl (Nat.le_of_ble_eq_true rfl) dX8_attempt_12 rfl (kI fun hv3 iv4 hw => ?_)
  refine r_if_ne C dX8_attempt_15 20 (by decide) (fun hc => ?_) (fun hc => ?_)
  · replace hw := hw.1 hc
    refine r_aload_n C dX8_attempt_20 0 rfl ?_
    have hob := hw.1
    obtain ⟨rv5, hp, hw⟩ := hw.2
    refine r_getP C fl_RX8_19_7 hob hp (fun _ _ _ => rfl) dX8_attempt_21 ?_
    refine r_iload_n C dX8_attempt_24 1 rfl ?_
    refine r_aload_n C dX8_attempt_25 0 rfl ?_
    have hob := hw.1
    obtain ⟨rv6, hp, hw⟩ := hw.2
    refine r_getP C fl_RX8_9_7 hob hp (fun _ _ _ => rfl) dX8_attempt_26 ?_
    refine r_iload_n C dX8_attempt_29 1 rfl ?_
    refine r_iaload C hw.1 hw.2.1 dX8_attempt_30 ?_
    replace hw := hw.2.2
    refine r_iload_n C dX8_attempt_31 2 rfl ?_
    have hob := hw.1
    replace hw := hw.2
    refine r_callV C (As := [.int x1, .int (aI hv3 rv6 x1.toNatClampNeg), .int x2]) (rest := []) (c_X1_landing G hv3 rv5 x1 (aI hv3 rv6 x1.toNatClampNeg) x2 _ hw) yl_X1_landing (gm4 (List.mem_of_getElem? (i := 168) rfl) rfl) (gm4 (List.mem_of_getElem? (i := 169) rfl) rfl) (ci := 1) rfl (by decide) (gm4 (List.mem_of_getElem? (i := 170) rfl) rfl) hob (by decide) rfl (Nat.le_of_ble_eq_true rfl) dX8_attempt_32 rfl (kI fun hv7 iv8 hw => ?_)
    refine r_istore C dX8_attempt_35 [(4, .int iv8), (0, .ref (G.1 + a0)), (1, .int x1), (2, .int x2), (3, .int x3)] (by decide) rfl ?_
    refine r_iload C dX8_attempt_37 0 rfl ?_
    refine r_if_ge C dX8_attempt_39 45 (by decide) (fun hc => ?_) (fun hc => ?_)
    · replace hw := hw.1 hc
      refine r_aload_n C dX8_attempt_45 1 rfl ?_
      have hob := hw.1
      obtain ⟨rv9, hp, hw⟩ := hw.2
      refine r_getP C fl_RX8_19_7 hob hp (fun _ _ _ => rfl) dX8_attempt_46 ?_
      refine r_iload_n C dX8_attempt_49 2 rfl ?_
      refine r_iload C dX8_attempt_50 0 rfl ?_
      have hob := hw.1
      replace hw := hw.2
      refine r_callV C (As := [.int x1, .int iv8]) (rest := []) (c_X1_coverAt G hv7 rv9 x1 iv8 _ hw) yl_X1_coverAt (gm4 (List.mem_of_getElem? (i := 77) rfl) rfl) (gm3 (List.mem_of_getElem? (i := 223) rfl) rfl) (ci := 1) rfl (by decide) (gm3 (List.mem_of_getElem? (i := 224) rfl) rfl) hob (by decide) rfl (Nat.le_of_ble_eq_true rfl) dX8_attempt_52 rfl (kJ fun hv10 jv11 hw => ?_)
      refine r_lstore C dX8_attempt_55 [(5, .long jv11), (4, .int iv8), (0, .ref (G.1 + a0)), (1, .int x1), (2, .int x2), (3, .int x3)] (by decide) rfl ?_
      refine r_lload C dX8_attempt_57 0 rfl ?_
      refine r_aload_n C dX8_attempt_59 2 rfl ?_
      refine r_iload_n C dX8_attempt_60 3 rfl ?_
      have hob := hw.1
      replace hw := hw.2
      refine r_callV C (As := [.int x1]) (rest := [.long jv11]) (c_X8_coveredBut G hv10 a0 x1 _ hw) yl_X8_coveredBut (gm4 (List.mem_of_getElem? (i := 180) rfl) rfl) (gm4 (List.mem_of_getElem? (i := 181) rfl) rfl) (ci := 7) rfl (by decide) (gm4 (List.mem_of_getElem? (i := 182) rfl) rfl) hob (by decide) rfl (Nat.le_of_ble_eq_true rfl) dX8_attempt_61 rfl (kJ fun hv12 jv13 hw => ?_)
      refine r_land C dX8_attempt_64 ?_
      refine r_lconst (v := 0) C dX8_attempt_65 (by decide) ?_
      refine r_lcmp C dX8_attempt_66 ?_
      refine r_if_eq C dX8_attempt_67 73 (by decide) (fun hc => ?_) (fun hc => ?_)
      · replace hw := hw.1 hc
        refine r_aload_n C dX8_attempt_73 2 rfl ?_
        have hob := hw.1
        obtain ⟨rv14, hp, hw⟩ := hw.2
        refine r_getP C fl_RX8_19_7 hob hp (fun _ _ _ => rfl) dX8_attempt_74 ?_
        refine r_iload_n C dX8_attempt_77 3 rfl ?_
        refine r_lload C dX8_attempt_78 0 rfl ?_
        refine r_iload_n C dX8_attempt_80 5 rfl ?_
        have hob := hw.1
        replace hw := hw.2
        refine r_callV C (As := [.int x1, .long jv11, .int x3]) (rest := []) (c_X1_carries G hv12 rv14 x1 jv11 x3 _ hw) yl_X1_carries (gm4 (List.mem_of_getElem? (i := 167) rfl) rfl) (gm4 (List.mem_of_getElem? (i := 128) rfl) rfl) (ci := 1) rfl (by decide) (gm4 (List.mem_of_getElem? (i := 129) rfl) rfl) hob (by decide) rfl (Nat.le_of_ble_eq_true rfl) dX8_attempt_81 rfl (kI fun hv15 iv16 hw => ?_)
        refine r_if_ne C dX8_attempt_84 90 (by decide) (fun hc => ?_) (fun hc => ?_)
        · replace hw := hw.1 hc
          refine r_aload_n C dX8_attempt_90 2 rfl ?_
          refine r_iload_n C dX8_attempt_91 3 rfl ?_
          refine r_iload C dX8_attempt_92 1 rfl ?_
          have hob := hw.1
          replace hw := hw.2
          refine r_callV C (As := [.int x1, .int iv8]) (rest := []) (c_X8_ropesReach G hv15 a0 x1 iv8 _ hw) yl_X8_ropesReach (gm4 (List.mem_of_getElem? (i := 184) rfl) rfl) (gm4 (List.mem_of_getElem? (i := 185) rfl) rfl) (ci := 7) rfl (by decide) (gm4 (List.mem_of_getElem? (i := 186) rfl) rfl) hob (by decide) rfl (Nat.le_of_ble_eq_true rfl) dX8_attempt_94 rfl (kI fun hv17 iv18 hw => ?_)
          refine r_if_eq C dX8_attempt_97 105 (by decide) (fun hc => ?_) (fun hc => ?_)
          · replace hw := hw.1 hc
            refine r_bipush (v := (-6)) C dX8_attempt_105 (by decide) ?_
            exact r_iret C hr dX8_attempt_107 hw
          · replace hw := hw.2 hc
            refine r_iload C dX8_attempt_100 1 rfl ?_
            refine r_goto C dX8_attempt_102 107 (by decide) ?_
            exact r_iret C hr dX8_attempt_107 hw
        · replace hw := hw.2 hc
          refine r_bipush (v := (-5)) C dX8_attempt_87 (by decide) ?_
          exact r_iret C hr dX8_attempt_89 hw
      · replace hw := hw.2 hc
        refine r_bipush (v := (-4)) C dX8_attempt_70 (by decide) ?_
        exact r_iret C hr dX8_attempt_72 hw
    · replace hw := hw.2 hc
      refine r_iload C dX8_attempt_42 0 rfl ?_
      exact r_iret C hr dX8_attempt_44 hw
  · replace hw := hw.2 hc
    refine r_iconst (v := (-1)) C dX8_attempt_18 (by decide) ?_
    exact r_iret C hr dX8_attempt_19 hw
theorem dX6_leastAlone_0 : decode cX6_leastAlone 0 = .ok (.aload_n 0, 1) := by decide +kernel
theorem dX6_leastAlone_1 : decode cX6_leastAlone 1 = .ok (.getfield 44, 3) := by decide +kernel
theorem dX6_leastAlone_4 : decode cX6_leastAlone 4 = .ok (.aload_n 1, 1) := by decide +kernel
theorem dX6_leastAlone_5 : decode cX6_leastAlone 5 = .ok (.aload_n 2, 1) := by decide +kernel
theorem dX6_leastAlone_6 : decode cX6_leastAlone 6 = .ok (.invokevirtual 150, 3) := by decide +kernel
theorem dX6_leastAlone_9 : decode cX6_leastAlone 9 = .ok (.aload_n 0, 1) := by decide +kernel
theorem dX6_leastAlone_10 : decode cX6_leastAlone 10 = .ok (.aload_n 2, 1) := by decide +kernel
theorem dX6_leastAlone_11 : decode cX6_leastAlone 11 = .ok (.getfield 154, 3) := by decide +kernel
theorem dX6_leastAlone_14 : decode cX6_leastAlone 14 = .ok (.iload_n 3, 1) := by decide +kernel
theorem dX6_leastAlone_15 : decode cX6_leastAlone 15 = .ok (.iaload, 1) := by decide +kernel
theorem dX6_leastAlone_16 : decode cX6_leastAlone 16 = .ok (.iload 4, 2) := by decide +kernel
theorem dX6_leastAlone_18 : decode cX6_leastAlone 18 = .ok (.invokevirtual 94, 3) := by decide +kernel
theorem dX6_leastAlone_21 : decode cX6_leastAlone 21 = .ok (.aload_n 0, 1) := by decide +kernel
theorem dX6_leastAlone_22 : decode cX6_leastAlone 22 = .ok (.aload_n 2, 1) := by decide +kernel
theorem dX6_leastAlone_23 : decode cX6_leastAlone 23 = .ok (.getfield 154, 3) := by decide +kernel
theorem dX6_leastAlone_26 : decode cX6_leastAlone 26 = .ok (.iload_n 3, 1) := by decide +kernel
theorem dX6_leastAlone_27 : decode cX6_leastAlone 27 = .ok (.iaload, 1) := by decide +kernel
theorem dX6_leastAlone_28 : decode cX6_leastAlone 28 = .ok (.invokevirtual 157, 3) := by decide +kernel
theorem dX6_leastAlone_31 : decode cX6_leastAlone 31 = .ok (.pop, 1) := by decide +kernel
theorem dX6_leastAlone_32 : decode cX6_leastAlone 32 = .ok (.iconst 0, 1) := by decide +kernel
theorem dX6_leastAlone_33 : decode cX6_leastAlone 33 = .ok (.istore 6, 2) := by decide +kernel
theorem dX6_leastAlone_35 : decode cX6_leastAlone 35 = .ok (.iload 6, 2) := by decide +kernel
theorem dX6_leastAlone_37 : decode cX6_leastAlone 37 = .ok (.aload_n 0, 1) := by decide +kernel
theorem dX6_leastAlone_38 : decode cX6_leastAlone 38 = .ok (.getfield 54, 3) := by decide +kernel
theorem dX6_leastAlone_41 : decode cX6_leastAlone 41 = .ok (.if_icmp .ge 95, 3) := by decide +kernel
theorem dX6_leastAlone_44 : decode cX6_leastAlone 44 = .ok (.iload 6, 2) := by decide +kernel
theorem dX6_leastAlone_46 : decode cX6_leastAlone 46 = .ok (.sipush 128, 3) := by decide +kernel
theorem dX6_leastAlone_49 : decode cX6_leastAlone 49 = .ok (.if_icmp .ge 87, 3) := by decide +kernel
theorem dX6_leastAlone_52 : decode cX6_leastAlone 52 = .ok (.aload_n 0, 1) := by decide +kernel
theorem dX6_leastAlone_53 : decode cX6_leastAlone 53 = .ok (.getfield 60, 3) := by decide +kernel
theorem dX6_leastAlone_56 : decode cX6_leastAlone 56 = .ok (.ifCond .ge 80, 3) := by decide +kernel
theorem dX6_leastAlone_59 : decode cX6_leastAlone 59 = .ok (.aload_n 0, 1) := by decide +kernel
theorem dX6_leastAlone_60 : decode cX6_leastAlone 60 = .ok (.getfield 44, 3) := by decide +kernel
theorem dX6_leastAlone_63 : decode cX6_leastAlone 63 = .ok (.iload_n 3, 1) := by decide +kernel
theorem dX6_leastAlone_64 : decode cX6_leastAlone 64 = .ok (.aload_n 0, 1) := by decide +kernel
theorem dX6_leastAlone_65 : decode cX6_leastAlone 65 = .ok (.iload 6, 2) := by decide +kernel
theorem dX6_leastAlone_67 : decode cX6_leastAlone 67 = .ok (.invokevirtual 113, 3) := by decide +kernel
theorem dX6_leastAlone_70 : decode cX6_leastAlone 70 = .ok (.invokevirtual 160, 3) := by decide +kernel
theorem dX6_leastAlone_73 : decode cX6_leastAlone 73 = .ok (.iconst 0, 1) := by decide +kernel
theorem dX6_leastAlone_74 : decode cX6_leastAlone 74 = .ok (.istore 7, 2) := by decide +kernel
theorem dX6_leastAlone_76 : decode cX6_leastAlone 76 = .ok (.iload 7, 2) := by decide +kernel
theorem dX6_leastAlone_78 : decode cX6_leastAlone 78 = .ok (.iconst 5, 1) := by decide +kernel
theorem dX6_leastAlone_79 : decode cX6_leastAlone 79 = .ok (.if_icmp .ge 51, 3) := by decide +kernel
theorem dX6_leastAlone_82 : decode cX6_leastAlone 82 = .ok (.aload_n 0, 1) := by decide +kernel
theorem dX6_leastAlone_83 : decode cX6_leastAlone 83 = .ok (.getfield 44, 3) := by decide +kernel
theorem dX6_leastAlone_86 : decode cX6_leastAlone 86 = .ok (.iload_n 3, 1) := by decide +kernel
theorem dX6_leastAlone_87 : decode cX6_leastAlone 87 = .ok (.iload 7, 2) := by decide +kernel
theorem dX6_leastAlone_89 : decode cX6_leastAlone 89 = .ok (.iload 5, 2) := by decide +kernel
theorem dX6_leastAlone_91 : decode cX6_leastAlone 91 = .ok (.invokevirtual 163, 3) := by decide +kernel
theorem dX6_leastAlone_94 : decode cX6_leastAlone 94 = .ok (.istore 8, 2) := by decide +kernel
theorem dX6_leastAlone_96 : decode cX6_leastAlone 96 = .ok (.iload 8, 2) := by decide +kernel
theorem dX6_leastAlone_98 : decode cX6_leastAlone 98 = .ok (.ifCond .lt 26, 3) := by decide +kernel
theorem dX6_leastAlone_101 : decode cX6_leastAlone 101 = .ok (.aload_n 0, 1) := by decide +kernel
theorem dX6_leastAlone_102 : decode cX6_leastAlone 102 = .ok (.iload 8, 2) := by decide +kernel
theorem dX6_leastAlone_104 : decode cX6_leastAlone 104 = .ok (.invokevirtual 157, 3) := by decide +kernel
theorem dX6_leastAlone_107 : decode cX6_leastAlone 107 = .ok (.ifCond .eq 17, 3) := by decide +kernel
theorem dX6_leastAlone_110 : decode cX6_leastAlone 110 = .ok (.aload_n 0, 1) := by decide +kernel
theorem dX6_leastAlone_111 : decode cX6_leastAlone 111 = .ok (.iload 8, 2) := by decide +kernel
theorem dX6_leastAlone_113 : decode cX6_leastAlone 113 = .ok (.iload_n 3, 1) := by decide +kernel
theorem dX6_leastAlone_114 : decode cX6_leastAlone 114 = .ok (.iconst 5, 1) := by decide +kernel
theorem dX6_leastAlone_115 : decode cX6_leastAlone 115 = .ok (.imul, 1) := by decide +kernel
theorem dX6_leastAlone_116 : decode cX6_leastAlone 116 = .ok (.iload 7, 2) := by decide +kernel
theorem dX6_leastAlone_118 : decode cX6_leastAlone 118 = .ok (.iadd, 1) := by decide +kernel
theorem dX6_leastAlone_119 : decode cX6_leastAlone 119 = .ok (.iload 6, 2) := by decide +kernel
theorem dX6_leastAlone_121 : decode cX6_leastAlone 121 = .ok (.invokevirtual 63, 3) := by decide +kernel
theorem dX6_leastAlone_124 : decode cX6_leastAlone 124 = .ok (.iinc 7 1, 3) := by decide +kernel
theorem dX6_leastAlone_127 : decode cX6_leastAlone 127 = .ok (.goto (-51), 3) := by decide +kernel
theorem dX6_leastAlone_130 : decode cX6_leastAlone 130 = .ok (.iinc 6 1, 3) := by decide +kernel
theorem dX6_leastAlone_133 : decode cX6_leastAlone 133 = .ok (.goto (-98), 3) := by decide +kernel
theorem dX6_leastAlone_136 : decode cX6_leastAlone 136 = .ok (.aload_n 0, 1) := by decide +kernel
theorem dX6_leastAlone_137 : decode cX6_leastAlone 137 = .ok (.getfield 60, 3) := by decide +kernel
theorem dX6_leastAlone_140 : decode cX6_leastAlone 140 = .ok (.ifCond .ge 7, 3) := by decide +kernel
theorem dX6_leastAlone_143 : decode cX6_leastAlone 143 = .ok (.iconst (-1), 1) := by decide +kernel
theorem dX6_leastAlone_144 : decode cX6_leastAlone 144 = .ok (.goto 11, 3) := by decide +kernel
theorem dX6_leastAlone_147 : decode cX6_leastAlone 147 = .ok (.aload_n 0, 1) := by decide +kernel
theorem dX6_leastAlone_148 : decode cX6_leastAlone 148 = .ok (.aload_n 0, 1) := by decide +kernel
theorem dX6_leastAlone_149 : decode cX6_leastAlone 149 = .ok (.getfield 60, 3) := by decide +kernel
theorem dX6_leastAlone_152 : decode cX6_leastAlone 152 = .ok (.invokevirtual 110, 3) := by decide +kernel
theorem dX6_leastAlone_155 : decode cX6_leastAlone 155 = .ok (.ireturn, 1) := by decide +kernel
def wb_X6_leastAlone_136  (h : AH) (al0 : Nat)  (post : AH → Int32 → Prop) : Prop := (ob h al0 6) ∧ ((0 ≤ (aI h al0 5) → ((ob h al0 6) ∧ ((ob h al0 6) ∧ wp_X6_trace h al0 (aI h al0 5) (fun hv1 iv2 => post hv1 iv2)))) ∧ (¬ 0 ≤ (aI h al0 5) → (post h (-1))))
set_option maxRecDepth 100000 in
theorem tb_X6_leastAlone_136 {G : GG} {p : Program} {l : Launch} {e : Env} {R : Room} {s : State} {m : MethodId} {args : Array Value} {below : List Frame} {meth : Method} {c : Code} {n0 s0 : Nat} {post : AH → Int32 → Prop} (C : Cx G p R s m args meth c 9 cX6_leastAlone RX6 n0 s0 4 103) (hr : meth.sig.returnType = (some .int))   {h : AH} {al0 : Nat}  (hw : wb_X6_leastAlone_136  h al0 post) : AW G p l e R s m args below meth c 9 (QM G (pI post) args s below n0 s0) 136 [(0, .ref (G.1 + al0))] [] h := by
  unfold wb_X6_leastAlone_136 at hw
  refine r_aload_n C dX6_leastAlone_136 0 rfl ?_
  refine r_getI C fl_RX6_60_6 hw.1 (fun _ _ _ => rfl) dX6_leastAlone_137 ?_
  replace hw := hw.2
  refine r_if_ge C dX6_leastAlone_140 147 (by decide) (fun hc => ?_) (fun hc => ?_)
  · replace hw := hw.1 hc
    refine r_aload_n C dX6_leastAlone_147 0 rfl ?_
    refine r_aload_n C dX6_leastAlone_148 0 rfl ?_
    refine r_getI C fl_RX6_60_6 hw.1 (fun _ _ _ => rfl) dX6_leastAlone_149 ?_
    replace hw := hw.2
    have hob := hw.1
    replace hw := hw.2
    refine r_callV C (As := [.int (aI h al0 5)]) (rest := []) (c_X6_trace G h al0 (aI h al0 5) _ hw) yl_X6_trace (gm5 (List.mem_of_getElem? (i := 170) rfl) rfl) (gm5 (List.mem_of_getElem? (i := 172) rfl) rfl) (ci := 6) rfl (by decide) (gsel (List.mem_of_getElem? (i := 30) rfl)) hob (by decide) rfl (Nat.le_of_ble_eq_true rfl) dX6_leastAlone_152 rfl (kI fun hv1 iv2 hw => ?_)
    exact r_iret C hr dX6_leastAlone_155 hw
  · replace hw := hw.2 hc
    refine r_iconst (v := (-1)) C dX6_leastAlone_143 (by decide) ?_
    refine r_goto C dX6_leastAlone_144 155 (by decide) ?_
    exact r_iret C hr dX6_leastAlone_155 hw
def wb_X6_leastAlone_124 (K35 : AH → Nat → Int32 → Int32 → Int32 → Prop) (K76 : AH → Nat → Int32 → Int32 → Int32 → Int32 → Prop) (h : AH) (al0 : Nat) (xl3 : Int32) (xl5 : Int32) (xl6 : Int32) (xl7 : Int32)  (post : AH → Int32 → Prop) : Prop := ∀ iv1 : Int32, iv1 = xl7 + 1 → (K76 h al0 xl3 xl5 xl6 iv1)
set_option maxRecDepth 100000 in
theorem tb_X6_leastAlone_124 {G : GG} {p : Program} {l : Launch} {e : Env} {R : Room} {s : State} {m : MethodId} {args : Array Value} {below : List Frame} {meth : Method} {c : Code} {n0 s0 : Nat} {post : AH → Int32 → Prop} (C : Cx G p R s m args meth c 9 cX6_leastAlone RX6 n0 s0 4 103) (hr : meth.sig.returnType = (some .int)) {K35 : AH → Nat → Int32 → Int32 → Int32 → Prop} {K76 : AH → Nat → Int32 → Int32 → Int32 → Int32 → Prop} (hK35 : ∀ (h : AH) (al0 : Nat) (xl3 : Int32) (xl5 : Int32) (xl6 : Int32), K35 h al0 xl3 xl5 xl6 → AW G p l e R s m args below meth c 9 (QM G (pI post) args s below n0 s0) 35 [(0, .ref (G.1 + al0)), (3, .int xl3), (5, .int xl5), (6, .int xl6)] [] h) (hK76 : ∀ (h : AH) (al0 : Nat) (xl3 : Int32) (xl5 : Int32) (xl6 : Int32) (xl7 : Int32), K76 h al0 xl3 xl5 xl6 xl7 → AW G p l e R s m args below meth c 9 (QM G (pI post) args s below n0 s0) 76 [(0, .ref (G.1 + al0)), (3, .int xl3), (5, .int xl5), (6, .int xl6), (7, .int xl7)] [] h) {h : AH} {al0 : Nat} {xl3 : Int32} {xl5 : Int32} {xl6 : Int32} {xl7 : Int32}  (hw : wb_X6_leastAlone_124 K35 K76 h al0 xl3 xl5 xl6 xl7 post) : AW G p l e R s m args below meth c 9 (QM G (pI post) args s below n0 s0) 124 [(0, .ref (G.1 + al0)), (3, .int xl3), (5, .int xl5), (6, .int xl6), (7, .int xl7)] [] h := by
  unfold wb_X6_leastAlone_124 at hw
  obtain ⟨iv1, eiv1⟩ : ∃ q : Int32, q = xl7 + 1 := ⟨_, rfl⟩
  replace hw := hw iv1 eiv1
  refine r_iinc C dX6_leastAlone_124 4 rfl (by rw [eiv1]; rfl) [(7, .int iv1), (0, .ref (G.1 + al0)), (3, .int xl3), (5, .int xl5), (6, .int xl6)] (by decide) rfl ?_
  refine r_goto C dX6_leastAlone_127 76 (by decide) ?_
  refine r_sub [1, 2, 3, 4, 0] rfl ?_
  exact hK76 _ _ _ _ _ _ hw
def wb_X6_leastAlone_76 (K35 : AH → Nat → Int32 → Int32 → Int32 → Prop) (K76 : AH → Nat → Int32 → Int32 → Int32 → Int32 → Prop) (h : AH) (al0 : Nat) (xl3 : Int32) (xl5 : Int32) (xl6 : Int32) (xl7 : Int32)  (post : AH → Int32 → Prop) : Prop := (5 ≤ xl7 → (∀ iv1 : Int32, iv1 = xl6 + 1 → (K35 h al0 xl3 xl5 iv1))) ∧ (¬ 5 ≤ xl7 → ((ob h al0 6) ∧ (∃ rv2, aP h al0 6 = some rv2 ∧ ((ob h rv2 7) ∧ wp_X8_attempt h rv2 xl3 xl7 xl5 (fun hv3 iv4 => (iv4 < 0 → (wb_X6_leastAlone_124 K35 K76 hv3 al0 xl3 xl5 xl6 xl7 post)) ∧ (¬ iv4 < 0 → ((ob hv3 al0 6) ∧ wp_X6_isNewSpot hv3 al0 iv4 (fun hv5 iv6 => (iv6 = 0 → (wb_X6_leastAlone_124 K35 K76 hv5 al0 xl3 xl5 xl6 xl7 post)) ∧ (¬ iv6 = 0 → ((ob hv5 al0 6) ∧ wp_X6_push hv5 al0 iv4 ((xl3 * (5 : Int32)) + xl7) xl6 (fun hv7  => wb_X6_leastAlone_124 K35 K76 hv7 al0 xl3 xl5 xl6 xl7 post)))))))))))
set_option maxRecDepth 100000 in
theorem tb_X6_leastAlone_76 {G : GG} {p : Program} {l : Launch} {e : Env} {R : Room} {s : State} {m : MethodId} {args : Array Value} {below : List Frame} {meth : Method} {c : Code} {n0 s0 : Nat} {post : AH → Int32 → Prop} (C : Cx G p R s m args meth c 9 cX6_leastAlone RX6 n0 s0 4 103) (hr : meth.sig.returnType = (some .int)) {K35 : AH → Nat → Int32 → Int32 → Int32 → Prop} {K76 : AH → Nat → Int32 → Int32 → Int32 → Int32 → Prop} (hK35 : ∀ (h : AH) (al0 : Nat) (xl3 : Int32) (xl5 : Int32) (xl6 : Int32), K35 h al0 xl3 xl5 xl6 → AW G p l e R s m args below meth c 9 (QM G (pI post) args s below n0 s0) 35 [(0, .ref (G.1 + al0)), (3, .int xl3), (5, .int xl5), (6, .int xl6)] [] h) (hK76 : ∀ (h : AH) (al0 : Nat) (xl3 : Int32) (xl5 : Int32) (xl6 : Int32) (xl7 : Int32), K76 h al0 xl3 xl5 xl6 xl7 → AW G p l e R s m args below meth c 9 (QM G (pI post) args s below n0 s0) 76 [(0, .ref (G.1 + al0)), (3, .int xl3), (5, .int xl5), (6, .int xl6), (7, .int xl7)] [] h) {h : AH} {al0 : Nat} {xl3 : Int32} {xl5 : Int32} {xl6 : Int32} {xl7 : Int32}  (hw : wb_X6_leastAlone_76 K35 K76 h al0 xl3 xl5 xl6 xl7 post) : AW G p l e R s m args below meth c 9 (QM G (pI post) args s below n0 s0) 76 [(0, .ref (G.1 + al0)), (3, .int xl3), (5, .int xl5), (6, .int xl6), (7, .int xl7)] [] h := by
  unfold wb_X6_leastAlone_76 at hw
  refine r_iload C dX6_leastAlone_76 4 rfl ?_
  refine r_iconst (v := 5) C dX6_leastAlone_78 (by decide) ?_
  refine r_icmp_ge C dX6_leastAlone_79 130 (by decide) (fun hc => ?_) (fun hc => ?_)
  · replace hw := hw.1 hc
    obtain ⟨iv1, eiv1⟩ : ∃ q : Int32, q = xl6 + 1 := ⟨_, rfl⟩
    replace hw := hw iv1 eiv1
    refine r_iinc C dX6_leastAlone_130 3 rfl (by rw [eiv1]; rfl) [(6, .int iv1), (0, .ref (G.1 + al0)), (3, .int xl3), (5, .int xl5), (7, .int xl7)] (by decide) rfl ?_
    refine r_goto C dX6_leastAlone_133 35 (by decide) ?_
    refine r_sub [1, 2, 3, 0] rfl ?_
    exact hK35 _ _ _ _ _ hw
  · replace hw := hw.2 hc
    refine r_aload_n C dX6_leastAlone_82 0 rfl ?_
    have hob := hw.1
    obtain ⟨rv2, hp, hw⟩ := hw.2
    refine r_getP C fl_RX6_44_6 hob hp (fun _ _ _ => rfl) dX6_leastAlone_83 ?_
    refine r_iload_n C dX6_leastAlone_86 1 rfl ?_
    refine r_iload C dX6_leastAlone_87 4 rfl ?_
    refine r_iload C dX6_leastAlone_89 2 rfl ?_
    have hob := hw.1
    replace hw := hw.2
    refine r_callV C (As := [.int xl3, .int xl7, .int xl5]) (rest := []) (c_X8_attempt G h rv2 xl3 xl7 xl5 _ hw) yl_X8_attempt (gm5 (List.mem_of_getElem? (i := 207) rfl) rfl) (gm4 (List.mem_of_getElem? (i := 164) rfl) rfl) (ci := 7) rfl (by decide) (gm4 (List.mem_of_getElem? (i := 165) rfl) rfl) hob (by decide) rfl (Nat.le_of_ble_eq_true rfl) dX6_leastAlone_91 rfl (kI fun hv3 iv4 hw => ?_)
    refine r_istore C dX6_leastAlone_94 [(8, .int iv4), (0, .ref (G.1 + al0)), (3, .int xl3), (5, .int xl5), (6, .int xl6), (7, .int xl7)] (by decide) rfl ?_
    refine r_iload C dX6_leastAlone_96 0 rfl ?_
    refine r_if_lt C dX6_leastAlone_98 124 (by decide) (fun hc => ?_) (fun hc => ?_)
    · replace hw := hw.1 hc
      refine r_sub [1, 2, 3, 4, 5] rfl ?_
      exact tb_X6_leastAlone_124 C hr hK35 hK76 hw
    · replace hw := hw.2 hc
      refine r_aload_n C dX6_leastAlone_101 1 rfl ?_
      refine r_iload C dX6_leastAlone_102 0 rfl ?_
      have hob := hw.1
      replace hw := hw.2
      refine r_callV C (As := [.int iv4]) (rest := []) (c_X6_isNewSpot G hv3 al0 iv4 _ hw) yl_X6_isNewSpot (gm5 (List.mem_of_getElem? (i := 202) rfl) rfl) (gm5 (List.mem_of_getElem? (i := 204) rfl) rfl) (ci := 6) rfl (by decide) (gsel (List.mem_of_getElem? (i := 34) rfl)) hob (by decide) rfl (Nat.le_of_ble_eq_true rfl) dX6_leastAlone_104 rfl (kI fun hv5 iv6 hw => ?_)
      refine r_if_eq C dX6_leastAlone_107 124 (by decide) (fun hc => ?_) (fun hc => ?_)
      · replace hw := hw.1 hc
        refine r_sub [1, 2, 3, 4, 5] rfl ?_
        exact tb_X6_leastAlone_124 C hr hK35 hK76 hw
      · replace hw := hw.2 hc
        refine r_aload_n C dX6_leastAlone_110 1 rfl ?_
        refine r_iload C dX6_leastAlone_111 0 rfl ?_
        refine r_iload_n C dX6_leastAlone_113 2 rfl ?_
        refine r_iconst (v := 5) C dX6_leastAlone_114 (by decide) ?_
        refine r_imul C dX6_leastAlone_115 ?_
        refine r_iload C dX6_leastAlone_116 5 rfl ?_
        refine r_iadd C dX6_leastAlone_118 ?_
        refine r_iload C dX6_leastAlone_119 4 rfl ?_
        have hob := hw.1
        replace hw := hw.2
        refine r_callV C (As := [.int iv4, .int ((xl3 * (5 : Int32)) + xl7), .int xl6]) (rest := []) (c_X6_push G hv5 al0 iv4 ((xl3 * (5 : Int32)) + xl7) xl6 _ hw) yl_X6_push (gm5 (List.mem_of_getElem? (i := 128) rfl) rfl) (gm5 (List.mem_of_getElem? (i := 130) rfl) rfl) (ci := 6) rfl (by decide) (gsel (List.mem_of_getElem? (i := 26) rfl)) hob (by decide) rfl (Nat.le_of_ble_eq_true rfl) dX6_leastAlone_121 rfl (kV fun hv7  hw => ?_)
        refine r_sub [1, 2, 3, 4, 5] rfl ?_
        exact tb_X6_leastAlone_124 C hr hK35 hK76 hw
def wl_X6_leastAlone_76 (K35 : AH → Nat → Int32 → Int32 → Int32 → Prop) (post : AH → Int32 → Prop) : Nat → AH → Nat → Int32 → Int32 → Int32 → Int32 → Prop
  | 0 => fun _ _ _ _ _ _ => False
  | n + 1 => fun h al0 xl3 xl5 xl6 xl7 => wb_X6_leastAlone_76 K35 (wl_X6_leastAlone_76 K35 post n) h al0 xl3 xl5 xl6 xl7 post
theorem tl_X6_leastAlone_76 {G : GG} {p : Program} {l : Launch} {e : Env} {R : Room} {s : State} {m : MethodId} {args : Array Value} {below : List Frame} {meth : Method} {c : Code} {n0 s0 : Nat} {post : AH → Int32 → Prop} (C : Cx G p R s m args meth c 9 cX6_leastAlone RX6 n0 s0 4 103) (hr : meth.sig.returnType = (some .int)) {K35 : AH → Nat → Int32 → Int32 → Int32 → Prop} (hK35 : ∀ (h : AH) (al0 : Nat) (xl3 : Int32) (xl5 : Int32) (xl6 : Int32), K35 h al0 xl3 xl5 xl6 → AW G p l e R s m args below meth c 9 (QM G (pI post) args s below n0 s0) 35 [(0, .ref (G.1 + al0)), (3, .int xl3), (5, .int xl5), (6, .int xl6)] [] h) : ∀ (n : Nat) (h : AH) (al0 : Nat) (xl3 : Int32) (xl5 : Int32) (xl6 : Int32) (xl7 : Int32), wl_X6_leastAlone_76 K35 post n h al0 xl3 xl5 xl6 xl7 → AW G p l e R s m args below meth c 9 (QM G (pI post) args s below n0 s0) 76 [(0, .ref (G.1 + al0)), (3, .int xl3), (5, .int xl5), (6, .int xl6), (7, .int xl7)] [] h := by
  intro n
  induction n with
  | zero => intro h al0 xl3 xl5 xl6 xl7 hw; exact hw.elim
  | succ n ih => intro h al0 xl3 xl5 xl6 xl7 hw; exact tb_X6_leastAlone_76 C hr hK35 ih hw
def wb_X6_leastAlone_35 (K35 : AH → Nat → Int32 → Int32 → Int32 → Prop) (h : AH) (al0 : Nat) (xl3 : Int32) (xl5 : Int32) (xl6 : Int32)  (post : AH → Int32 → Prop) : Prop := (ob h al0 6) ∧ (((aI h al0 3) ≤ xl6 → (wb_X6_leastAlone_136  h al0 post)) ∧ (¬ (aI h al0 3) ≤ xl6 → ((128 ≤ xl6 → (wb_X6_leastAlone_136  h al0 post)) ∧ (¬ 128 ≤ xl6 → ((ob h al0 6) ∧ ((0 ≤ (aI h al0 5) → (wb_X6_leastAlone_136  h al0 post)) ∧ (¬ 0 ≤ (aI h al0 5) → ((ob h al0 6) ∧ (∃ rv1, aP h al0 6 = some rv1 ∧ ((ob h al0 6) ∧ wp_X6_stateAt h al0 xl6 (fun hv2 iv3 => (ob hv2 rv1 7) ∧ wp_X8_put hv2 rv1 xl3 iv3 (fun hv4  => ∃ n, wl_X6_leastAlone_76 K35 post n hv4 al0 xl3 xl5 xl6 0))))))))))))
set_option maxRecDepth 100000 in
theorem tb_X6_leastAlone_35 {G : GG} {p : Program} {l : Launch} {e : Env} {R : Room} {s : State} {m : MethodId} {args : Array Value} {below : List Frame} {meth : Method} {c : Code} {n0 s0 : Nat} {post : AH → Int32 → Prop} (C : Cx G p R s m args meth c 9 cX6_leastAlone RX6 n0 s0 4 103) (hr : meth.sig.returnType = (some .int)) {K35 : AH → Nat → Int32 → Int32 → Int32 → Prop} (hK35 : ∀ (h : AH) (al0 : Nat) (xl3 : Int32) (xl5 : Int32) (xl6 : Int32), K35 h al0 xl3 xl5 xl6 → AW G p l e R s m args below meth c 9 (QM G (pI post) args s below n0 s0) 35 [(0, .ref (G.1 + al0)), (3, .int xl3), (5, .int xl5), (6, .int xl6)] [] h) {h : AH} {al0 : Nat} {xl3 : Int32} {xl5 : Int32} {xl6 : Int32}  (hw : wb_X6_leastAlone_35 K35 h al0 xl3 xl5 xl6 post) : AW G p l e R s m args below meth c 9 (QM G (pI post) args s below n0 s0) 35 [(0, .ref (G.1 + al0)), (3, .int xl3), (5, .int xl5), (6, .int xl6)] [] h := by
  unfold wb_X6_leastAlone_35 at hw
  refine r_iload C dX6_leastAlone_35 3 rfl ?_
  refine r_aload_n C dX6_leastAlone_37 0 rfl ?_
  refine r_getI C fl_RX6_54_6 hw.1 (fun _ _ _ => rfl) dX6_leastAlone_38 ?_
  replace hw := hw.2
  refine r_icmp_ge C dX6_leastAlone_41 136 (by decide) (fun hc => ?_) (fun hc => ?_)
  · replace hw := hw.1 hc
    refine r_sub [0] rfl ?_
    exact tb_X6_leastAlone_136 C hr  hw
  · replace hw := hw.2 hc
    refine r_iload C dX6_leastAlone_44 3 rfl ?_
    refine r_sipush (v := 128) C dX6_leastAlone_46 (by decide) ?_
    refine r_icmp_ge C dX6_leastAlone_49 136 (by decide) (fun hc => ?_) (fun hc => ?_)
    · replace hw := hw.1 hc
      refine r_sub [0] rfl ?_
      exact tb_X6_leastAlone_136 C hr  hw
    · replace hw := hw.2 hc
      refine r_aload_n C dX6_leastAlone_52 0 rfl ?_
      refine r_getI C fl_RX6_60_6 hw.1 (fun _ _ _ => rfl) dX6_leastAlone_53 ?_
      replace hw := hw.2
      refine r_if_ge C dX6_leastAlone_56 136 (by decide) (fun hc => ?_) (fun hc => ?_)
      · replace hw := hw.1 hc
        refine r_sub [0] rfl ?_
        exact tb_X6_leastAlone_136 C hr  hw
      · replace hw := hw.2 hc
        refine r_aload_n C dX6_leastAlone_59 0 rfl ?_
        have hob := hw.1
        obtain ⟨rv1, hp, hw⟩ := hw.2
        refine r_getP C fl_RX6_44_6 hob hp (fun _ _ _ => rfl) dX6_leastAlone_60 ?_
        refine r_iload_n C dX6_leastAlone_63 1 rfl ?_
        refine r_aload_n C dX6_leastAlone_64 0 rfl ?_
        refine r_iload C dX6_leastAlone_65 3 rfl ?_
        have hob := hw.1
        replace hw := hw.2
        refine r_callV C (As := [.int xl6]) (rest := [.int xl3, .ref (G.1 + rv1)]) (c_X6_stateAt G h al0 xl6 _ hw) yl_X6_stateAt (gm5 (List.mem_of_getElem? (i := 153) rfl) rfl) (gm5 (List.mem_of_getElem? (i := 155) rfl) rfl) (ci := 6) rfl (by decide) (gsel (List.mem_of_getElem? (i := 29) rfl)) hob (by decide) rfl (Nat.le_of_ble_eq_true rfl) dX6_leastAlone_67 rfl (kI fun hv2 iv3 hw => ?_)
        have hob := hw.1
        replace hw := hw.2
        refine r_callV C (As := [.int xl3, .int iv3]) (rest := []) (c_X8_put G hv2 rv1 xl3 iv3 _ hw) yl_X8_put (gm5 (List.mem_of_getElem? (i := 206) rfl) rfl) (gm4 (List.mem_of_getElem? (i := 74) rfl) rfl) (ci := 7) rfl (by decide) (gm4 (List.mem_of_getElem? (i := 75) rfl) rfl) hob (by decide) rfl (Nat.le_of_ble_eq_true rfl) dX6_leastAlone_70 rfl (kV fun hv4  hw => ?_)
        refine r_iconst (v := 0) C dX6_leastAlone_73 (by decide) ?_
        refine r_istore C dX6_leastAlone_74 [(7, .int 0), (0, .ref (G.1 + al0)), (3, .int xl3), (5, .int xl5), (6, .int xl6)] (by decide) rfl ?_
        refine r_sub [1, 2, 3, 4, 0] rfl ?_
        obtain ⟨n, hw⟩ := hw
        exact tl_X6_leastAlone_76 C hr hK35 n _ _ _ _ _ _ hw
def wl_X6_leastAlone_35  (post : AH → Int32 → Prop) : Nat → AH → Nat → Int32 → Int32 → Int32 → Prop
  | 0 => fun _ _ _ _ _ => False
  | n + 1 => fun h al0 xl3 xl5 xl6 => wb_X6_leastAlone_35  (wl_X6_leastAlone_35  post n) h al0 xl3 xl5 xl6 post
theorem tl_X6_leastAlone_35 {G : GG} {p : Program} {l : Launch} {e : Env} {R : Room} {s : State} {m : MethodId} {args : Array Value} {below : List Frame} {meth : Method} {c : Code} {n0 s0 : Nat} {post : AH → Int32 → Prop} (C : Cx G p R s m args meth c 9 cX6_leastAlone RX6 n0 s0 4 103) (hr : meth.sig.returnType = (some .int))   : ∀ (n : Nat) (h : AH) (al0 : Nat) (xl3 : Int32) (xl5 : Int32) (xl6 : Int32), wl_X6_leastAlone_35  post n h al0 xl3 xl5 xl6 → AW G p l e R s m args below meth c 9 (QM G (pI post) args s below n0 s0) 35 [(0, .ref (G.1 + al0)), (3, .int xl3), (5, .int xl5), (6, .int xl6)] [] h := by
  intro n
  induction n with
  | zero => intro h al0 xl3 xl5 xl6 hw; exact hw.elim
  | succ n ih => intro h al0 xl3 xl5 xl6 hw; exact tb_X6_leastAlone_35 C hr  ih hw
def wp_X6_leastAlone (h : AH) (a0 : Nat) (a1 : Nat) (a2 : Nat) (x3 : Int32) (x4 : Int32) (x5 : Int32) (post : AH → Int32 → Prop) : Prop := (ob h a0 6) ∧ (∃ rv1, aP h a0 6 = some rv1 ∧ ((ob h rv1 7) ∧ wp_X8_follow h rv1 a1 a2 (fun hv2  => (ob hv2 a2 7) ∧ (∃ rv3, aP hv2 a2 1 = some rv3 ∧ ((ob hv2 rv3 13) ∧ ((vp_in x3 (aL hv2 rv3)) ∧ ((ob hv2 a0 6) ∧ wp_X6_begin hv2 a0 (aI hv2 rv3 x3.toNatClampNeg) x4 (fun hv4  => (ob hv4 a2 7) ∧ (∃ rv5, aP hv4 a2 1 = some rv5 ∧ ((ob hv4 rv5 13) ∧ ((vp_in x3 (aL hv4 rv5)) ∧ ((ob hv4 a0 6) ∧ wp_X6_isNewSpot hv4 a0 (aI hv4 rv5 x3.toNatClampNeg) (fun hv6 iv7 => ∃ n, wl_X6_leastAlone_35  post n hv6 a0 x3 x5 0)))))))))))))
set_option maxRecDepth 100000 in
theorem c_X6_leastAlone (G : GG) (h : AH) (a0 : Nat) (a1 : Nat) (a2 : Nat) (x3 : Int32) (x4 : Int32) (x5 : Int32) (post : AH → Int32 → Prop) (hw : wp_X6_leastAlone h a0 a1 a2 x3 x4 x5 post) : MC G yX6_leastAlone cX6_leastAlone 9 (some .int) 4 103 h [.ref (G.1 + a0), .ref (G.1 + a1), .ref (G.1 + a2), .int x3, .int x4, .int x5] (pI post) := by
  refine MC.of (lv := [(0, .ref (G.1 + a0)), (1, .ref (G.1 + a1)), (2, .ref (G.1 + a2)), (3, .int x3), (4, .int x4), (5, .int x5)]) (by decide) (Nat.le_of_ble_eq_true rfl) rfl fun p l e R s m args below meth c C hr hnm => ?_
  unfold wp_X6_leastAlone at hw
  refine r_aload_n C dX6_leastAlone_0 0 rfl ?_
  have hob := hw.1
  obtain ⟨rv1, hp, hw⟩ := hw.2
  refine r_getP C fl_RX6_44_6 hob hp (fun _ _ _ => rfl) dX6_leastAlone_1 ?_
  refine r_aload_n C dX6_leastAlone_4 1 rfl ?_
  refine r_aload_n C dX6_leastAlone_5 2 rfl ?_
  have hob := hw.1
  replace hw := hw.2
  refine r_callV C (As := [.ref (G.1 + a1), .ref (G.1 + a2)]) (rest := []) (c_X8_follow G h rv1 a1 a2 _ hw) yl_X8_follow (gm5 (List.mem_of_getElem? (i := 201) rfl) rfl) (gm4 (List.mem_of_getElem? (i := 117) rfl) rfl) (ci := 7) rfl (by decide) (gm4 (List.mem_of_getElem? (i := 118) rfl) rfl) hob (by decide) rfl (Nat.le_of_ble_eq_true rfl) dX6_leastAlone_6 rfl (kV fun hv2  hw => ?_)
  refine r_aload_n C dX6_leastAlone_9 0 rfl ?_
  refine r_aload_n C dX6_leastAlone_10 2 rfl ?_
  have hob := hw.1
  obtain ⟨rv3, hp, hw⟩ := hw.2
  refine r_getP C fl_RX6_154_7 hob hp (fun _ _ _ => rfl) dX6_leastAlone_11 ?_
  refine r_iload_n C dX6_leastAlone_14 3 rfl ?_
  refine r_iaload C hw.1 hw.2.1 dX6_leastAlone_15 ?_
  replace hw := hw.2.2
  refine r_iload C dX6_leastAlone_16 4 rfl ?_
  have hob := hw.1
  replace hw := hw.2
  refine r_callV C (As := [.int (aI hv2 rv3 x3.toNatClampNeg), .int x4]) (rest := []) (c_X6_begin G hv2 a0 (aI hv2 rv3 x3.toNatClampNeg) x4 _ hw) yl_X6_begin (gm5 (List.mem_of_getElem? (i := 123) rfl) rfl) (gm5 (List.mem_of_getElem? (i := 125) rfl) rfl) (ci := 6) rfl (by decide) (gsel (List.mem_of_getElem? (i := 25) rfl)) hob (by decide) rfl (Nat.le_of_ble_eq_true rfl) dX6_leastAlone_18 rfl (kV fun hv4  hw => ?_)
  refine r_aload_n C dX6_leastAlone_21 0 rfl ?_
  refine r_aload_n C dX6_leastAlone_22 2 rfl ?_
  have hob := hw.1
  obtain ⟨rv5, hp, hw⟩ := hw.2
  refine r_getP C fl_RX6_154_7 hob hp (fun _ _ _ => rfl) dX6_leastAlone_23 ?_
  refine r_iload_n C dX6_leastAlone_26 3 rfl ?_
  refine r_iaload C hw.1 hw.2.1 dX6_leastAlone_27 ?_
  replace hw := hw.2.2
  have hob := hw.1
  replace hw := hw.2
  refine r_callV C (As := [.int (aI hv4 rv5 x3.toNatClampNeg)]) (rest := []) (c_X6_isNewSpot G hv4 a0 (aI hv4 rv5 x3.toNatClampNeg) _ hw) yl_X6_isNewSpot (gm5 (List.mem_of_getElem? (i := 202) rfl) rfl) (gm5 (List.mem_of_getElem? (i := 204) rfl) rfl) (ci := 6) rfl (by decide) (gsel (List.mem_of_getElem? (i := 34) rfl)) hob (by decide) rfl (Nat.le_of_ble_eq_true rfl) dX6_leastAlone_28 rfl (kI fun hv6 iv7 hw => ?_)
  refine r_pop C dX6_leastAlone_31 rfl ?_
  refine r_iconst (v := 0) C dX6_leastAlone_32 (by decide) ?_
  refine r_istore C dX6_leastAlone_33 [(6, .int 0), (0, .ref (G.1 + a0)), (1, .ref (G.1 + a1)), (2, .ref (G.1 + a2)), (3, .int x3), (4, .int x4), (5, .int x5)] (by decide) rfl ?_
  refine r_sub [1, 4, 6, 0] rfl ?_
  obtain ⟨n, hw⟩ := hw
  exact tl_X6_leastAlone_35 C hr  n _ _ _ _ _ hw
theorem dX6_tryLast_0 : decode cX6_tryLast 0 = .ok (.aload_n 0, 1) := by decide +kernel
theorem dX6_tryLast_1 : decode cX6_tryLast 1 = .ok (.getfield 37, 3) := by decide +kernel
theorem dX6_tryLast_4 : decode cX6_tryLast 4 = .ok (.iconst 2, 1) := by decide +kernel
theorem dX6_tryLast_5 : decode cX6_tryLast 5 = .ok (.iload_n 1, 1) := by decide +kernel
theorem dX6_tryLast_6 : decode cX6_tryLast 6 = .ok (.iconst 1, 1) := by decide +kernel
theorem dX6_tryLast_7 : decode cX6_tryLast 7 = .ok (.invokevirtual 120, 3) := by decide +kernel
theorem dX6_tryLast_10 : decode cX6_tryLast 10 = .ok (.lstore_n 3, 1) := by decide +kernel
theorem dX6_tryLast_11 : decode cX6_tryLast 11 = .ok (.iconst 0, 1) := by decide +kernel
theorem dX6_tryLast_12 : decode cX6_tryLast 12 = .ok (.istore 5, 2) := by decide +kernel
theorem dX6_tryLast_14 : decode cX6_tryLast 14 = .ok (.iload 5, 2) := by decide +kernel
theorem dX6_tryLast_16 : decode cX6_tryLast 16 = .ok (.aload_n 0, 1) := by decide +kernel
theorem dX6_tryLast_17 : decode cX6_tryLast 17 = .ok (.getfield 37, 3) := by decide +kernel
theorem dX6_tryLast_20 : decode cX6_tryLast 20 = .ok (.getfield 172, 3) := by decide +kernel
theorem dX6_tryLast_23 : decode cX6_tryLast 23 = .ok (.iconst 2, 1) := by decide +kernel
theorem dX6_tryLast_24 : decode cX6_tryLast 24 = .ok (.iaload, 1) := by decide +kernel
theorem dX6_tryLast_25 : decode cX6_tryLast 25 = .ok (.if_icmp .ge 65, 3) := by decide +kernel
theorem dX6_tryLast_28 : decode cX6_tryLast 28 = .ok (.lload_n 3, 1) := by decide +kernel
theorem dX6_tryLast_29 : decode cX6_tryLast 29 = .ok (.iload 5, 2) := by decide +kernel
theorem dX6_tryLast_31 : decode cX6_tryLast 31 = .ok (.lushr, 1) := by decide +kernel
theorem dX6_tryLast_32 : decode cX6_tryLast 32 = .ok (.lconst 1, 1) := by decide +kernel
theorem dX6_tryLast_33 : decode cX6_tryLast 33 = .ok (.land, 1) := by decide +kernel
theorem dX6_tryLast_34 : decode cX6_tryLast 34 = .ok (.lconst 0, 1) := by decide +kernel
theorem dX6_tryLast_35 : decode cX6_tryLast 35 = .ok (.lcmp, 1) := by decide +kernel
theorem dX6_tryLast_36 : decode cX6_tryLast 36 = .ok (.ifCond .eq 48, 3) := by decide +kernel
theorem dX6_tryLast_39 : decode cX6_tryLast 39 = .ok (.aload_n 0, 1) := by decide +kernel
theorem dX6_tryLast_40 : decode cX6_tryLast 40 = .ok (.getfield 20, 3) := by decide +kernel
theorem dX6_tryLast_43 : decode cX6_tryLast 43 = .ok (.iload_n 2, 1) := by decide +kernel
theorem dX6_tryLast_44 : decode cX6_tryLast 44 = .ok (.aload_n 0, 1) := by decide +kernel
theorem dX6_tryLast_45 : decode cX6_tryLast 45 = .ok (.getfield 37, 3) := by decide +kernel
theorem dX6_tryLast_48 : decode cX6_tryLast 48 = .ok (.iload_n 1, 1) := by decide +kernel
theorem dX6_tryLast_49 : decode cX6_tryLast 49 = .ok (.iload 5, 2) := by decide +kernel
theorem dX6_tryLast_51 : decode cX6_tryLast 51 = .ok (.ior, 1) := by decide +kernel
theorem dX6_tryLast_52 : decode cX6_tryLast 52 = .ok (.invokevirtual 147, 3) := by decide +kernel
theorem dX6_tryLast_55 : decode cX6_tryLast 55 = .ok (.iconst (-1), 1) := by decide +kernel
theorem dX6_tryLast_56 : decode cX6_tryLast 56 = .ok (.ixor, 1) := by decide +kernel
theorem dX6_tryLast_57 : decode cX6_tryLast 57 = .ok (.iand, 1) := by decide +kernel
theorem dX6_tryLast_58 : decode cX6_tryLast 58 = .ok (.iaload, 1) := by decide +kernel
theorem dX6_tryLast_59 : decode cX6_tryLast 59 = .ok (.istore 6, 2) := by decide +kernel
theorem dX6_tryLast_61 : decode cX6_tryLast 61 = .ok (.iload 6, 2) := by decide +kernel
theorem dX6_tryLast_63 : decode cX6_tryLast 63 = .ok (.aload_n 0, 1) := by decide +kernel
theorem dX6_tryLast_64 : decode cX6_tryLast 64 = .ok (.getfield 166, 3) := by decide +kernel
theorem dX6_tryLast_67 : decode cX6_tryLast 67 = .ok (.if_icmp .le 17, 3) := by decide +kernel
theorem dX6_tryLast_70 : decode cX6_tryLast 70 = .ok (.aload_n 0, 1) := by decide +kernel
theorem dX6_tryLast_71 : decode cX6_tryLast 71 = .ok (.iload 6, 2) := by decide +kernel
theorem dX6_tryLast_73 : decode cX6_tryLast 73 = .ok (.putfield 166, 3) := by decide +kernel
theorem dX6_tryLast_76 : decode cX6_tryLast 76 = .ok (.aload_n 0, 1) := by decide +kernel
theorem dX6_tryLast_77 : decode cX6_tryLast 77 = .ok (.iload_n 1, 1) := by decide +kernel
theorem dX6_tryLast_78 : decode cX6_tryLast 78 = .ok (.iload 5, 2) := by decide +kernel
theorem dX6_tryLast_80 : decode cX6_tryLast 80 = .ok (.ior, 1) := by decide +kernel
theorem dX6_tryLast_81 : decode cX6_tryLast 81 = .ok (.putfield 169, 3) := by decide +kernel
theorem dX6_tryLast_84 : decode cX6_tryLast 84 = .ok (.iinc 5 1, 3) := by decide +kernel
theorem dX6_tryLast_87 : decode cX6_tryLast 87 = .ok (.goto (-73), 3) := by decide +kernel
theorem dX6_tryLast_90 : decode cX6_tryLast 90 = .ok (.return_, 1) := by decide +kernel
def wb_X6_tryLast_84 (K14 : AH → Nat → Int32 → Int32 → Int64 → Int32 → Prop) (h : AH) (al0 : Nat) (xl1 : Int32) (xl2 : Int32) (zl3 : Int64) (xl5 : Int32)  (post : AH → Prop) : Prop := ∀ iv1 : Int32, iv1 = xl5 + 1 → (K14 h al0 xl1 xl2 zl3 iv1)
set_option maxRecDepth 100000 in
theorem tb_X6_tryLast_84 {G : GG} {p : Program} {l : Launch} {e : Env} {R : Room} {s : State} {m : MethodId} {args : Array Value} {below : List Frame} {meth : Method} {c : Code} {n0 s0 : Nat} {post : AH → Prop} (C : Cx G p R s m args meth c 7 cX6_tryLast RX6 n0 s0 3 64) (hr : meth.sig.returnType = none) {K14 : AH → Nat → Int32 → Int32 → Int64 → Int32 → Prop} (hK14 : ∀ (h : AH) (al0 : Nat) (xl1 : Int32) (xl2 : Int32) (zl3 : Int64) (xl5 : Int32), K14 h al0 xl1 xl2 zl3 xl5 → AW G p l e R s m args below meth c 7 (QM G (pV post) args s below n0 s0) 14 [(0, .ref (G.1 + al0)), (1, .int xl1), (2, .int xl2), (3, .long zl3), (5, .int xl5)] [] h) {h : AH} {al0 : Nat} {xl1 : Int32} {xl2 : Int32} {zl3 : Int64} {xl5 : Int32}  (hw : wb_X6_tryLast_84 K14 h al0 xl1 xl2 zl3 xl5 post) : AW G p l e R s m args below meth c 7 (QM G (pV post) args s below n0 s0) 84 [(0, .ref (G.1 + al0)), (1, .int xl1), (2, .int xl2), (3, .long zl3), (5, .int xl5)] [] h := by
  unfold wb_X6_tryLast_84 at hw
  obtain ⟨iv1, eiv1⟩ : ∃ q : Int32, q = xl5 + 1 := ⟨_, rfl⟩
  replace hw := hw iv1 eiv1
  refine r_iinc C dX6_tryLast_84 4 rfl (by rw [eiv1]; rfl) [(5, .int iv1), (0, .ref (G.1 + al0)), (1, .int xl1), (2, .int xl2), (3, .long zl3)] (by decide) rfl ?_
  refine r_goto C dX6_tryLast_87 14 (by decide) ?_
  refine r_sub [1, 2, 3, 4, 0] rfl ?_
  exact hK14 _ _ _ _ _ _ hw
def wb_X6_tryLast_14 (K14 : AH → Nat → Int32 → Int32 → Int64 → Int32 → Prop) (h : AH) (al0 : Nat) (xl1 : Int32) (xl2 : Int32) (zl3 : Int64) (xl5 : Int32)  (post : AH → Prop) : Prop := (ob h al0 6) ∧ (∃ rv1, aP h al0 0 = some rv1 ∧ ((ob h rv1 0) ∧ (∃ rv2, aP h rv1 1 = some rv2 ∧ ((ob h rv2 13) ∧ ((vp_in 2 (aL h rv2)) ∧ (((aI h rv2 (2 : Int32).toNatClampNeg) ≤ xl5 → (post h)) ∧ (¬ (aI h rv2 (2 : Int32).toNatClampNeg) ≤ xl5 → (((lg_cmp (((zl3.toUInt64 >>> (xl5.toInt64.toUInt64 &&& Int64.toUInt64 63)).toInt64) &&& (1 : Int64)) 0) = 0 → (wb_X6_tryLast_84 K14 h al0 xl1 xl2 zl3 xl5 post)) ∧ (¬ (lg_cmp (((zl3.toUInt64 >>> (xl5.toInt64.toUInt64 &&& Int64.toUInt64 63)).toInt64) &&& (1 : Int64)) 0) = 0 → ((ob h al0 6) ∧ (∃ rv3, aP h al0 7 = some rv3 ∧ ((ob h al0 6) ∧ (∃ rv4, aP h al0 0 = some rv4 ∧ ((ob h rv4 0) ∧ wp_X0_notSoIn h rv4 (xl1 ||| xl5) (fun hv5 iv6 => (ob hv5 rv3 13) ∧ ((vp_in (xl2 &&& (iv6 ^^^ (-1 : Int32))) (aL hv5 rv3)) ∧ (∀ iv7 : Int32, iv7 = aI hv5 rv3 (xl2 &&& (iv6 ^^^ (-1 : Int32))).toNatClampNeg → ((ob hv5 al0 6) ∧ ((iv7 ≤ (aI hv5 al0 11) → (wb_X6_tryLast_84 K14 hv5 al0 xl1 xl2 zl3 xl5 post)) ∧ (¬ iv7 ≤ (aI hv5 al0 11) → ((ob hv5 al0 6) ∧ (∀ hv8 : AH, hv8 = hI hv5 al0 11 iv7 → ((ob hv8 al0 6) ∧ (∀ hv9 : AH, hv9 = hI hv8 al0 12 (xl1 ||| xl5) → (wb_X6_tryLast_84 K14 hv9 al0 xl1 xl2 zl3 xl5 post)))))))))))))))))))))))))
set_option maxRecDepth 100000 in
theorem tb_X6_tryLast_14 {G : GG} {p : Program} {l : Launch} {e : Env} {R : Room} {s : State} {m : MethodId} {args : Array Value} {below : List Frame} {meth : Method} {c : Code} {n0 s0 : Nat} {post : AH → Prop} (C : Cx G p R s m args meth c 7 cX6_tryLast RX6 n0 s0 3 64) (hr : meth.sig.returnType = none) {K14 : AH → Nat → Int32 → Int32 → Int64 → Int32 → Prop} (hK14 : ∀ (h : AH) (al0 : Nat) (xl1 : Int32) (xl2 : Int32) (zl3 : Int64) (xl5 : Int32), K14 h al0 xl1 xl2 zl3 xl5 → AW G p l e R s m args below meth c 7 (QM G (pV post) args s below n0 s0) 14 [(0, .ref (G.1 + al0)), (1, .int xl1), (2, .int xl2), (3, .long zl3), (5, .int xl5)] [] h) {h : AH} {al0 : Nat} {xl1 : Int32} {xl2 : Int32} {zl3 : Int64} {xl5 : Int32}  (hw : wb_X6_tryLast_14 K14 h al0 xl1 xl2 zl3 xl5 post) : AW G p l e R s m args below meth c 7 (QM G (pV post) args s below n0 s0) 14 [(0, .ref (G.1 + al0)), (1, .int xl1), (2, .int xl2), (3, .long zl3), (5, .int xl5)] [] h := by
  unfold wb_X6_tryLast_14 at hw
  refine r_iload C dX6_tryLast_14 4 rfl ?_
  refine r_aload_n C dX6_tryLast_16 0 rfl ?_
  have hob := hw.1
  obtain ⟨rv1, hp, hw⟩ := hw.2
  refine r_getP C fl_RX6_37_6 hob hp (fun _ _ _ => rfl) dX6_tryLast_17 ?_
  have hob := hw.1
  obtain ⟨rv2, hp, hw⟩ := hw.2
  refine r_getP C fl_RX6_172_0 hob hp (fun _ _ _ => rfl) dX6_tryLast_20 ?_
  refine r_iconst (v := 2) C dX6_tryLast_23 (by decide) ?_
  refine r_iaload C hw.1 hw.2.1 dX6_tryLast_24 ?_
  replace hw := hw.2.2
  refine r_icmp_ge C dX6_tryLast_25 90 (by decide) (fun hc => ?_) (fun hc => ?_)
  · replace hw := hw.1 hc
    exact r_vret C hr dX6_tryLast_90 hw
  · replace hw := hw.2 hc
    refine r_lload_n C dX6_tryLast_28 3 rfl ?_
    refine r_iload C dX6_tryLast_29 4 rfl ?_
    refine r_lushr C dX6_tryLast_31 ?_
    refine r_lconst (v := 1) C dX6_tryLast_32 (by decide) ?_
    refine r_land C dX6_tryLast_33 ?_
    refine r_lconst (v := 0) C dX6_tryLast_34 (by decide) ?_
    refine r_lcmp C dX6_tryLast_35 ?_
    refine r_if_eq C dX6_tryLast_36 84 (by decide) (fun hc => ?_) (fun hc => ?_)
    · replace hw := hw.1 hc
      refine r_sub [0, 1, 2, 3, 4] rfl ?_
      exact tb_X6_tryLast_84 C hr hK14 hw
    · replace hw := hw.2 hc
      refine r_aload_n C dX6_tryLast_39 0 rfl ?_
      have hob := hw.1
      obtain ⟨rv3, hp, hw⟩ := hw.2
      refine r_getP C fl_RX6_20_6 hob hp (fun _ _ _ => rfl) dX6_tryLast_40 ?_
      refine r_iload_n C dX6_tryLast_43 2 rfl ?_
      refine r_aload_n C dX6_tryLast_44 0 rfl ?_
      have hob := hw.1
      obtain ⟨rv4, hp, hw⟩ := hw.2
      refine r_getP C fl_RX6_37_6 hob hp (fun _ _ _ => rfl) dX6_tryLast_45 ?_
      refine r_iload_n C dX6_tryLast_48 1 rfl ?_
      refine r_iload C dX6_tryLast_49 4 rfl ?_
      refine r_ior C dX6_tryLast_51 ?_
      have hob := hw.1
      replace hw := hw.2
      refine r_callV C (As := [.int (xl1 ||| xl5)]) (rest := [.int xl2, .ref (G.1 + rv3)]) (c_X0_notSoIn G h rv4 (xl1 ||| xl5) _ hw) yl_X0_notSoIn (gm5 (List.mem_of_getElem? (i := 233) rfl) rfl) (gm5 (List.mem_of_getElem? (i := 234) rfl) rfl) (ci := 0) rfl (by decide) (gm5 (List.mem_of_getElem? (i := 235) rfl) rfl) hob (by decide) rfl (Nat.le_of_ble_eq_true rfl) dX6_tryLast_52 rfl (kI fun hv5 iv6 hw => ?_)
      refine r_iconst (v := (-1)) C dX6_tryLast_55 (by decide) ?_
      refine r_ixor C dX6_tryLast_56 ?_
      refine r_iand C dX6_tryLast_57 ?_
      refine r_iaload C hw.1 hw.2.1 dX6_tryLast_58 ?_
      replace hw := hw.2.2
      refine r_topi fun iv7 eiv7 => ?_
      replace hw := hw iv7 eiv7
      refine r_istore C dX6_tryLast_59 [(6, .int iv7), (0, .ref (G.1 + al0)), (1, .int xl1), (2, .int xl2), (3, .long zl3), (5, .int xl5)] (by decide) rfl ?_
      refine r_iload C dX6_tryLast_61 0 rfl ?_
      refine r_aload_n C dX6_tryLast_63 1 rfl ?_
      refine r_getI C fl_RX6_166_6 hw.1 (fun _ _ _ => rfl) dX6_tryLast_64 ?_
      replace hw := hw.2
      refine r_icmp_le C dX6_tryLast_67 84 (by decide) (fun hc => ?_) (fun hc => ?_)
      · replace hw := hw.1 hc
        refine r_sub [1, 2, 3, 4, 5] rfl ?_
        exact tb_X6_tryLast_84 C hr hK14 hw
      · replace hw := hw.2 hc
        refine r_aload_n C dX6_tryLast_70 1 rfl ?_
        refine r_iload C dX6_tryLast_71 0 rfl ?_
        refine r_putI C fp_RX6_166_6 hw.1 rfl dX6_tryLast_73 ?_
        replace hw := hw.2
        refine r_toph fun hv8 ehv8 => ?_
        replace hw := hw hv8 ehv8
        refine r_aload_n C dX6_tryLast_76 1 rfl ?_
        refine r_iload_n C dX6_tryLast_77 2 rfl ?_
        refine r_iload C dX6_tryLast_78 5 rfl ?_
        refine r_ior C dX6_tryLast_80 ?_
        refine r_putI C fp_RX6_169_6 hw.1 rfl dX6_tryLast_81 ?_
        replace hw := hw.2
        refine r_toph fun hv9 ehv9 => ?_
        replace hw := hw hv9 ehv9
        refine r_sub [1, 2, 3, 4, 5] rfl ?_
        exact tb_X6_tryLast_84 C hr hK14 hw
def wl_X6_tryLast_14  (post : AH → Prop) : Nat → AH → Nat → Int32 → Int32 → Int64 → Int32 → Prop
  | 0 => fun _ _ _ _ _ _ => False
  | n + 1 => fun h al0 xl1 xl2 zl3 xl5 => wb_X6_tryLast_14  (wl_X6_tryLast_14  post n) h al0 xl1 xl2 zl3 xl5 post
theorem tl_X6_tryLast_14 {G : GG} {p : Program} {l : Launch} {e : Env} {R : Room} {s : State} {m : MethodId} {args : Array Value} {below : List Frame} {meth : Method} {c : Code} {n0 s0 : Nat} {post : AH → Prop} (C : Cx G p R s m args meth c 7 cX6_tryLast RX6 n0 s0 3 64) (hr : meth.sig.returnType = none)   : ∀ (n : Nat) (h : AH) (al0 : Nat) (xl1 : Int32) (xl2 : Int32) (zl3 : Int64) (xl5 : Int32), wl_X6_tryLast_14  post n h al0 xl1 xl2 zl3 xl5 → AW G p l e R s m args below meth c 7 (QM G (pV post) args s below n0 s0) 14 [(0, .ref (G.1 + al0)), (1, .int xl1), (2, .int xl2), (3, .long zl3), (5, .int xl5)] [] h := by
  intro n
  induction n with
  | zero => intro h al0 xl1 xl2 zl3 xl5 hw; exact hw.elim
  | succ n ih => intro h al0 xl1 xl2 zl3 xl5 hw; exact tb_X6_tryLast_14 C hr  ih hw
def wp_X6_tryLast (h : AH) (a0 : Nat) (x1 : Int32) (x2 : Int32) (post : AH → Prop) : Prop := (ob h a0 6) ∧ (∃ rv1, aP h a0 0 = some rv1 ∧ ((ob h rv1 0) ∧ wp_X0_roomFor h rv1 2 x1 1 (fun hv2 jv3 => ∃ n, wl_X6_tryLast_14  post n hv2 a0 x1 x2 jv3 0)))
set_option maxRecDepth 100000 in
theorem c_X6_tryLast (G : GG) (h : AH) (a0 : Nat) (x1 : Int32) (x2 : Int32) (post : AH → Prop) (hw : wp_X6_tryLast h a0 x1 x2 post) : MC G yX6_tryLast cX6_tryLast 7 none 3 64 h [.ref (G.1 + a0), .int x1, .int x2] (pV post) := by
  refine MC.of (lv := [(0, .ref (G.1 + a0)), (1, .int x1), (2, .int x2)]) (by decide) (Nat.le_of_ble_eq_true rfl) rfl fun p l e R s m args below meth c C hr hnm => ?_
  unfold wp_X6_tryLast at hw
  refine r_aload_n C dX6_tryLast_0 0 rfl ?_
  have hob := hw.1
  obtain ⟨rv1, hp, hw⟩ := hw.2
  refine r_getP C fl_RX6_37_6 hob hp (fun _ _ _ => rfl) dX6_tryLast_1 ?_
  refine r_iconst (v := 2) C dX6_tryLast_4 (by decide) ?_
  refine r_iload_n C dX6_tryLast_5 1 rfl ?_
  refine r_iconst (v := 1) C dX6_tryLast_6 (by decide) ?_
  have hob := hw.1
  replace hw := hw.2
  refine r_callV C (As := [.int 2, .int x1, .int 1]) (rest := []) (c_X0_roomFor G h rv1 2 x1 1 _ hw) yl_X0_roomFor (gm5 (List.mem_of_getElem? (i := 161) rfl) rfl) (gm5 (List.mem_of_getElem? (i := 162) rfl) rfl) (ci := 0) rfl (by decide) (gm5 (List.mem_of_getElem? (i := 163) rfl) rfl) hob (by decide) rfl (Nat.le_of_ble_eq_true rfl) dX6_tryLast_7 rfl (kJ fun hv2 jv3 hw => ?_)
  refine r_lstore_n C dX6_tryLast_10 [(3, .long jv3), (0, .ref (G.1 + a0)), (1, .int x1), (2, .int x2)] (by decide) rfl ?_
  refine r_iconst (v := 0) C dX6_tryLast_11 (by decide) ?_
  refine r_istore C dX6_tryLast_12 [(5, .int 0), (3, .long jv3), (0, .ref (G.1 + a0)), (1, .int x1), (2, .int x2)] (by decide) rfl ?_
  refine r_sub [2, 3, 4, 1, 0] rfl ?_
  obtain ⟨n, hw⟩ := hw
  exact tl_X6_tryLast_14 C hr  n _ _ _ _ _ _ hw
theorem dX6_mostMetAnywhere_0 : decode cX6_mostMetAnywhere 0 = .ok (.aload_n 0, 1) := by decide +kernel
theorem dX6_mostMetAnywhere_1 : decode cX6_mostMetAnywhere 1 = .ok (.getfield 37, 3) := by decide +kernel
theorem dX6_mostMetAnywhere_4 : decode cX6_mostMetAnywhere 4 = .ok (.aload_n 1, 1) := by decide +kernel
theorem dX6_mostMetAnywhere_5 : decode cX6_mostMetAnywhere 5 = .ok (.invokevirtual 83, 3) := by decide +kernel
theorem dX6_mostMetAnywhere_8 : decode cX6_mostMetAnywhere 8 = .ok (.aload_n 0, 1) := by decide +kernel
theorem dX6_mostMetAnywhere_9 : decode cX6_mostMetAnywhere 9 = .ok (.getfield 37, 3) := by decide +kernel
theorem dX6_mostMetAnywhere_12 : decode cX6_mostMetAnywhere 12 = .ok (.invokevirtual 131, 3) := by decide +kernel
theorem dX6_mostMetAnywhere_15 : decode cX6_mostMetAnywhere 15 = .ok (.aload_n 1, 1) := by decide +kernel
theorem dX6_mostMetAnywhere_16 : decode cX6_mostMetAnywhere 16 = .ok (.getfield 134, 3) := by decide +kernel
theorem dX6_mostMetAnywhere_19 : decode cX6_mostMetAnywhere 19 = .ok (.aload_n 0, 1) := by decide +kernel
theorem dX6_mostMetAnywhere_20 : decode cX6_mostMetAnywhere 20 = .ok (.getfield 20, 3) := by decide +kernel
theorem dX6_mostMetAnywhere_23 : decode cX6_mostMetAnywhere 23 = .ok (.invokevirtual 138, 3) := by decide +kernel
theorem dX6_mostMetAnywhere_26 : decode cX6_mostMetAnywhere 26 = .ok (.iconst 1, 1) := by decide +kernel
theorem dX6_mostMetAnywhere_27 : decode cX6_mostMetAnywhere 27 = .ok (.aload_n 1, 1) := by decide +kernel
theorem dX6_mostMetAnywhere_28 : decode cX6_mostMetAnywhere 28 = .ok (.getfield 134, 3) := by decide +kernel
theorem dX6_mostMetAnywhere_31 : decode cX6_mostMetAnywhere 31 = .ok (.getfield 144, 3) := by decide +kernel
theorem dX6_mostMetAnywhere_34 : decode cX6_mostMetAnywhere 34 = .ok (.ishl, 1) := by decide +kernel
theorem dX6_mostMetAnywhere_35 : decode cX6_mostMetAnywhere 35 = .ok (.iconst 1, 1) := by decide +kernel
theorem dX6_mostMetAnywhere_36 : decode cX6_mostMetAnywhere 36 = .ok (.isub, 1) := by decide +kernel
theorem dX6_mostMetAnywhere_37 : decode cX6_mostMetAnywhere 37 = .ok (.istore_n 2, 1) := by decide +kernel
theorem dX6_mostMetAnywhere_38 : decode cX6_mostMetAnywhere 38 = .ok (.aload_n 0, 1) := by decide +kernel
theorem dX6_mostMetAnywhere_39 : decode cX6_mostMetAnywhere 39 = .ok (.iconst (-1), 1) := by decide +kernel
theorem dX6_mostMetAnywhere_40 : decode cX6_mostMetAnywhere 40 = .ok (.putfield 166, 3) := by decide +kernel
theorem dX6_mostMetAnywhere_43 : decode cX6_mostMetAnywhere 43 = .ok (.aload_n 0, 1) := by decide +kernel
theorem dX6_mostMetAnywhere_44 : decode cX6_mostMetAnywhere 44 = .ok (.iconst 0, 1) := by decide +kernel
theorem dX6_mostMetAnywhere_45 : decode cX6_mostMetAnywhere 45 = .ok (.putfield 169, 3) := by decide +kernel
theorem dX6_mostMetAnywhere_48 : decode cX6_mostMetAnywhere 48 = .ok (.iconst 0, 1) := by decide +kernel
theorem dX6_mostMetAnywhere_49 : decode cX6_mostMetAnywhere 49 = .ok (.istore_n 3, 1) := by decide +kernel
theorem dX6_mostMetAnywhere_50 : decode cX6_mostMetAnywhere 50 = .ok (.iload_n 3, 1) := by decide +kernel
theorem dX6_mostMetAnywhere_51 : decode cX6_mostMetAnywhere 51 = .ok (.aload_n 0, 1) := by decide +kernel
theorem dX6_mostMetAnywhere_52 : decode cX6_mostMetAnywhere 52 = .ok (.getfield 37, 3) := by decide +kernel
theorem dX6_mostMetAnywhere_55 : decode cX6_mostMetAnywhere 55 = .ok (.getfield 172, 3) := by decide +kernel
theorem dX6_mostMetAnywhere_58 : decode cX6_mostMetAnywhere 58 = .ok (.iconst 0, 1) := by decide +kernel
theorem dX6_mostMetAnywhere_59 : decode cX6_mostMetAnywhere 59 = .ok (.iaload, 1) := by decide +kernel
theorem dX6_mostMetAnywhere_60 : decode cX6_mostMetAnywhere 60 = .ok (.if_icmp .ge 103, 3) := by decide +kernel
theorem dX6_mostMetAnywhere_63 : decode cX6_mostMetAnywhere 63 = .ok (.aload_n 0, 1) := by decide +kernel
theorem dX6_mostMetAnywhere_64 : decode cX6_mostMetAnywhere 64 = .ok (.getfield 37, 3) := by decide +kernel
theorem dX6_mostMetAnywhere_67 : decode cX6_mostMetAnywhere 67 = .ok (.iconst 1, 1) := by decide +kernel
theorem dX6_mostMetAnywhere_68 : decode cX6_mostMetAnywhere 68 = .ok (.iload_n 3, 1) := by decide +kernel
theorem dX6_mostMetAnywhere_69 : decode cX6_mostMetAnywhere 69 = .ok (.bipush 12, 2) := by decide +kernel
theorem dX6_mostMetAnywhere_71 : decode cX6_mostMetAnywhere 71 = .ok (.ishl, 1) := by decide +kernel
theorem dX6_mostMetAnywhere_72 : decode cX6_mostMetAnywhere 72 = .ok (.iconst 0, 1) := by decide +kernel
theorem dX6_mostMetAnywhere_73 : decode cX6_mostMetAnywhere 73 = .ok (.invokevirtual 120, 3) := by decide +kernel
theorem dX6_mostMetAnywhere_76 : decode cX6_mostMetAnywhere 76 = .ok (.lstore 4, 2) := by decide +kernel
theorem dX6_mostMetAnywhere_78 : decode cX6_mostMetAnywhere 78 = .ok (.iconst 0, 1) := by decide +kernel
theorem dX6_mostMetAnywhere_79 : decode cX6_mostMetAnywhere 79 = .ok (.istore 6, 2) := by decide +kernel
theorem dX6_mostMetAnywhere_81 : decode cX6_mostMetAnywhere 81 = .ok (.iload 6, 2) := by decide +kernel
theorem dX6_mostMetAnywhere_83 : decode cX6_mostMetAnywhere 83 = .ok (.aload_n 0, 1) := by decide +kernel
theorem dX6_mostMetAnywhere_84 : decode cX6_mostMetAnywhere 84 = .ok (.getfield 37, 3) := by decide +kernel
theorem dX6_mostMetAnywhere_87 : decode cX6_mostMetAnywhere 87 = .ok (.getfield 172, 3) := by decide +kernel
theorem dX6_mostMetAnywhere_90 : decode cX6_mostMetAnywhere 90 = .ok (.iconst 1, 1) := by decide +kernel
theorem dX6_mostMetAnywhere_91 : decode cX6_mostMetAnywhere 91 = .ok (.iaload, 1) := by decide +kernel
theorem dX6_mostMetAnywhere_92 : decode cX6_mostMetAnywhere 92 = .ok (.if_icmp .ge 65, 3) := by decide +kernel
theorem dX6_mostMetAnywhere_95 : decode cX6_mostMetAnywhere 95 = .ok (.iload_n 3, 1) := by decide +kernel
theorem dX6_mostMetAnywhere_96 : decode cX6_mostMetAnywhere 96 = .ok (.bipush 12, 2) := by decide +kernel
theorem dX6_mostMetAnywhere_98 : decode cX6_mostMetAnywhere 98 = .ok (.ishl, 1) := by decide +kernel
theorem dX6_mostMetAnywhere_99 : decode cX6_mostMetAnywhere 99 = .ok (.iload 6, 2) := by decide +kernel
theorem dX6_mostMetAnywhere_101 : decode cX6_mostMetAnywhere 101 = .ok (.bipush 6, 2) := by decide +kernel
theorem dX6_mostMetAnywhere_103 : decode cX6_mostMetAnywhere 103 = .ok (.ishl, 1) := by decide +kernel
theorem dX6_mostMetAnywhere_104 : decode cX6_mostMetAnywhere 104 = .ok (.ior, 1) := by decide +kernel
theorem dX6_mostMetAnywhere_105 : decode cX6_mostMetAnywhere 105 = .ok (.istore 7, 2) := by decide +kernel
theorem dX6_mostMetAnywhere_107 : decode cX6_mostMetAnywhere 107 = .ok (.lload 4, 2) := by decide +kernel
theorem dX6_mostMetAnywhere_109 : decode cX6_mostMetAnywhere 109 = .ok (.iload 6, 2) := by decide +kernel
theorem dX6_mostMetAnywhere_111 : decode cX6_mostMetAnywhere 111 = .ok (.lushr, 1) := by decide +kernel
theorem dX6_mostMetAnywhere_112 : decode cX6_mostMetAnywhere 112 = .ok (.lconst 1, 1) := by decide +kernel
theorem dX6_mostMetAnywhere_113 : decode cX6_mostMetAnywhere 113 = .ok (.land, 1) := by decide +kernel
theorem dX6_mostMetAnywhere_114 : decode cX6_mostMetAnywhere 114 = .ok (.lconst 0, 1) := by decide +kernel
theorem dX6_mostMetAnywhere_115 : decode cX6_mostMetAnywhere 115 = .ok (.lcmp, 1) := by decide +kernel
theorem dX6_mostMetAnywhere_116 : decode cX6_mostMetAnywhere 116 = .ok (.ifCond .eq 35, 3) := by decide +kernel
theorem dX6_mostMetAnywhere_119 : decode cX6_mostMetAnywhere 119 = .ok (.aload_n 0, 1) := by decide +kernel
theorem dX6_mostMetAnywhere_120 : decode cX6_mostMetAnywhere 120 = .ok (.getfield 20, 3) := by decide +kernel
theorem dX6_mostMetAnywhere_123 : decode cX6_mostMetAnywhere 123 = .ok (.iload_n 2, 1) := by decide +kernel
theorem dX6_mostMetAnywhere_124 : decode cX6_mostMetAnywhere 124 = .ok (.aload_n 0, 1) := by decide +kernel
theorem dX6_mostMetAnywhere_125 : decode cX6_mostMetAnywhere 125 = .ok (.getfield 37, 3) := by decide +kernel
theorem dX6_mostMetAnywhere_128 : decode cX6_mostMetAnywhere 128 = .ok (.iload 7, 2) := by decide +kernel
theorem dX6_mostMetAnywhere_130 : decode cX6_mostMetAnywhere 130 = .ok (.invokevirtual 175, 3) := by decide +kernel
theorem dX6_mostMetAnywhere_133 : decode cX6_mostMetAnywhere 133 = .ok (.iconst (-1), 1) := by decide +kernel
theorem dX6_mostMetAnywhere_134 : decode cX6_mostMetAnywhere 134 = .ok (.ixor, 1) := by decide +kernel
theorem dX6_mostMetAnywhere_135 : decode cX6_mostMetAnywhere 135 = .ok (.iand, 1) := by decide +kernel
theorem dX6_mostMetAnywhere_136 : decode cX6_mostMetAnywhere 136 = .ok (.iaload, 1) := by decide +kernel
theorem dX6_mostMetAnywhere_137 : decode cX6_mostMetAnywhere 137 = .ok (.aload_n 0, 1) := by decide +kernel
theorem dX6_mostMetAnywhere_138 : decode cX6_mostMetAnywhere 138 = .ok (.getfield 166, 3) := by decide +kernel
theorem dX6_mostMetAnywhere_141 : decode cX6_mostMetAnywhere 141 = .ok (.if_icmp .le 10, 3) := by decide +kernel
theorem dX6_mostMetAnywhere_144 : decode cX6_mostMetAnywhere 144 = .ok (.aload_n 0, 1) := by decide +kernel
theorem dX6_mostMetAnywhere_145 : decode cX6_mostMetAnywhere 145 = .ok (.iload 7, 2) := by decide +kernel
theorem dX6_mostMetAnywhere_147 : decode cX6_mostMetAnywhere 147 = .ok (.iload_n 2, 1) := by decide +kernel
theorem dX6_mostMetAnywhere_148 : decode cX6_mostMetAnywhere 148 = .ok (.invokevirtual 178, 3) := by decide +kernel
theorem dX6_mostMetAnywhere_151 : decode cX6_mostMetAnywhere 151 = .ok (.iinc 6 1, 3) := by decide +kernel
theorem dX6_mostMetAnywhere_154 : decode cX6_mostMetAnywhere 154 = .ok (.goto (-73), 3) := by decide +kernel
theorem dX6_mostMetAnywhere_157 : decode cX6_mostMetAnywhere 157 = .ok (.iinc 3 1, 3) := by decide +kernel
theorem dX6_mostMetAnywhere_160 : decode cX6_mostMetAnywhere 160 = .ok (.goto (-110), 3) := by decide +kernel
theorem dX6_mostMetAnywhere_163 : decode cX6_mostMetAnywhere 163 = .ok (.aload_n 0, 1) := by decide +kernel
theorem dX6_mostMetAnywhere_164 : decode cX6_mostMetAnywhere 164 = .ok (.aload_n 1, 1) := by decide +kernel
theorem dX6_mostMetAnywhere_165 : decode cX6_mostMetAnywhere 165 = .ok (.getfield 102, 3) := by decide +kernel
theorem dX6_mostMetAnywhere_168 : decode cX6_mostMetAnywhere 168 = .ok (.iconst 3, 1) := by decide +kernel
theorem dX6_mostMetAnywhere_169 : decode cX6_mostMetAnywhere 169 = .ok (.invokestatic 181, 3) := by decide +kernel
theorem dX6_mostMetAnywhere_172 : decode cX6_mostMetAnywhere 172 = .ok (.putfield 186, 3) := by decide +kernel
theorem dX6_mostMetAnywhere_175 : decode cX6_mostMetAnywhere 175 = .ok (.iconst 0, 1) := by decide +kernel
theorem dX6_mostMetAnywhere_176 : decode cX6_mostMetAnywhere 176 = .ok (.istore_n 3, 1) := by decide +kernel
theorem dX6_mostMetAnywhere_177 : decode cX6_mostMetAnywhere 177 = .ok (.iload_n 3, 1) := by decide +kernel
theorem dX6_mostMetAnywhere_178 : decode cX6_mostMetAnywhere 178 = .ok (.aload_n 0, 1) := by decide +kernel
theorem dX6_mostMetAnywhere_179 : decode cX6_mostMetAnywhere 179 = .ok (.getfield 186, 3) := by decide +kernel
theorem dX6_mostMetAnywhere_182 : decode cX6_mostMetAnywhere 182 = .ok (.if_icmp .ge 36, 3) := by decide +kernel
theorem dX6_mostMetAnywhere_185 : decode cX6_mostMetAnywhere 185 = .ok (.aload_n 0, 1) := by decide +kernel
theorem dX6_mostMetAnywhere_186 : decode cX6_mostMetAnywhere 186 = .ok (.getfield 27, 3) := by decide +kernel
theorem dX6_mostMetAnywhere_189 : decode cX6_mostMetAnywhere 189 = .ok (.iload_n 3, 1) := by decide +kernel
theorem dX6_mostMetAnywhere_190 : decode cX6_mostMetAnywhere 190 = .ok (.aload_n 0, 1) := by decide +kernel
theorem dX6_mostMetAnywhere_191 : decode cX6_mostMetAnywhere 191 = .ok (.getfield 37, 3) := by decide +kernel
theorem dX6_mostMetAnywhere_194 : decode cX6_mostMetAnywhere 194 = .ok (.getfield 189, 3) := by decide +kernel
theorem dX6_mostMetAnywhere_197 : decode cX6_mostMetAnywhere 197 = .ok (.iload_n 3, 1) := by decide +kernel
theorem dX6_mostMetAnywhere_198 : decode cX6_mostMetAnywhere 198 = .ok (.bipush 40, 2) := by decide +kernel
theorem dX6_mostMetAnywhere_200 : decode cX6_mostMetAnywhere 200 = .ok (.imul, 1) := by decide +kernel
theorem dX6_mostMetAnywhere_201 : decode cX6_mostMetAnywhere 201 = .ok (.aload_n 0, 1) := by decide +kernel
theorem dX6_mostMetAnywhere_202 : decode cX6_mostMetAnywhere 202 = .ok (.getfield 169, 3) := by decide +kernel
theorem dX6_mostMetAnywhere_205 : decode cX6_mostMetAnywhere 205 = .ok (.iload_n 3, 1) := by decide +kernel
theorem dX6_mostMetAnywhere_206 : decode cX6_mostMetAnywhere 206 = .ok (.invokestatic 116, 3) := by decide +kernel
theorem dX6_mostMetAnywhere_209 : decode cX6_mostMetAnywhere 209 = .ok (.iadd, 1) := by decide +kernel
theorem dX6_mostMetAnywhere_210 : decode cX6_mostMetAnywhere 210 = .ok (.iaload, 1) := by decide +kernel
theorem dX6_mostMetAnywhere_211 : decode cX6_mostMetAnywhere 211 = .ok (.iastore, 1) := by decide +kernel
theorem dX6_mostMetAnywhere_212 : decode cX6_mostMetAnywhere 212 = .ok (.iinc 3 1, 3) := by decide +kernel
theorem dX6_mostMetAnywhere_215 : decode cX6_mostMetAnywhere 215 = .ok (.goto (-38), 3) := by decide +kernel
theorem dX6_mostMetAnywhere_218 : decode cX6_mostMetAnywhere 218 = .ok (.aload_n 0, 1) := by decide +kernel
theorem dX6_mostMetAnywhere_219 : decode cX6_mostMetAnywhere 219 = .ok (.aload_n 0, 1) := by decide +kernel
theorem dX6_mostMetAnywhere_220 : decode cX6_mostMetAnywhere 220 = .ok (.getfield 37, 3) := by decide +kernel
theorem dX6_mostMetAnywhere_223 : decode cX6_mostMetAnywhere 223 = .ok (.aload_n 0, 1) := by decide +kernel
theorem dX6_mostMetAnywhere_224 : decode cX6_mostMetAnywhere 224 = .ok (.getfield 169, 3) := by decide +kernel
theorem dX6_mostMetAnywhere_227 : decode cX6_mostMetAnywhere 227 = .ok (.invokevirtual 147, 3) := by decide +kernel
theorem dX6_mostMetAnywhere_230 : decode cX6_mostMetAnywhere 230 = .ok (.putfield 30, 3) := by decide +kernel
theorem dX6_mostMetAnywhere_233 : decode cX6_mostMetAnywhere 233 = .ok (.aload_n 0, 1) := by decide +kernel
theorem dX6_mostMetAnywhere_234 : decode cX6_mostMetAnywhere 234 = .ok (.getfield 166, 3) := by decide +kernel
theorem dX6_mostMetAnywhere_237 : decode cX6_mostMetAnywhere 237 = .ok (.ireturn, 1) := by decide +kernel
def wb_X6_mostMetAnywhere_177 (K177 : AH → Nat → Int32 → Prop) (h : AH) (al0 : Nat) (xl3 : Int32)  (post : AH → Int32 → Prop) : Prop := (ob h al0 6) ∧ (((aI h al0 13) ≤ xl3 → ((ob h al0 6) ∧ (∃ rv1, aP h al0 0 = some rv1 ∧ ((ob h al0 6) ∧ ((ob h rv1 0) ∧ wp_X0_notSoIn h rv1 (aI h al0 12) (fun hv2 iv3 => (ob hv2 al0 6) ∧ (∀ hv4 : AH, hv4 = hI hv2 al0 14 iv3 → ((ob hv4 al0 6) ∧ (post hv4 (aI hv4 al0 11)))))))))) ∧ (¬ (aI h al0 13) ≤ xl3 → ((ob h al0 6) ∧ (∃ rv5, aP h al0 10 = some rv5 ∧ ((ob h al0 6) ∧ (∃ rv6, aP h al0 0 = some rv6 ∧ ((ob h rv6 0) ∧ (∃ rv7, aP h rv6 2 = some rv7 ∧ ((ob h al0 6) ∧ (wp_X0_numberIn h (aI h al0 12) xl3 (fun hv8 iv9 => (ob hv8 rv7 13) ∧ ((vp_in ((xl3 * (40 : Int32)) + iv9) (aL hv8 rv7)) ∧ ((ob hv8 rv5 13) ∧ ((vp_in xl3 (aL hv8 rv5)) ∧ (∀ hv10 : AH, hv10 = hI hv8 rv5 xl3.toNatClampNeg (aI hv8 rv7 ((xl3 * (40 : Int32)) + iv9).toNatClampNeg) → (∀ iv11 : Int32, iv11 = xl3 + 1 → (K177 hv10 al0 iv11)))))))))))))))))
set_option maxRecDepth 100000 in
theorem tb_X6_mostMetAnywhere_177 {G : GG} {p : Program} {l : Launch} {e : Env} {R : Room} {s : State} {m : MethodId} {args : Array Value} {below : List Frame} {meth : Method} {c : Code} {n0 s0 : Nat} {post : AH → Int32 → Prop} (C : Cx G p R s m args meth c 8 cX6_mostMetAnywhere RX6 n0 s0 5 123) (hr : meth.sig.returnType = (some .int)) {K177 : AH → Nat → Int32 → Prop} (hK177 : ∀ (h : AH) (al0 : Nat) (xl3 : Int32), K177 h al0 xl3 → AW G p l e R s m args below meth c 8 (QM G (pI post) args s below n0 s0) 177 [(0, .ref (G.1 + al0)), (3, .int xl3)] [] h) {h : AH} {al0 : Nat} {xl3 : Int32}  (hw : wb_X6_mostMetAnywhere_177 K177 h al0 xl3 post) : AW G p l e R s m args below meth c 8 (QM G (pI post) args s below n0 s0) 177 [(0, .ref (G.1 + al0)), (3, .int xl3)] [] h := by
  unfold wb_X6_mostMetAnywhere_177 at hw
  refine r_iload_n C dX6_mostMetAnywhere_177 1 rfl ?_
  refine r_aload_n C dX6_mostMetAnywhere_178 0 rfl ?_
  refine r_getI C fl_RX6_186_6 hw.1 (fun _ _ _ => rfl) dX6_mostMetAnywhere_179 ?_
  replace hw := hw.2
  refine r_icmp_ge C dX6_mostMetAnywhere_182 218 (by decide) (fun hc => ?_) (fun hc => ?_)
  · replace hw := hw.1 hc
    refine r_aload_n C dX6_mostMetAnywhere_218 0 rfl ?_
    refine r_aload_n C dX6_mostMetAnywhere_219 0 rfl ?_
    have hob := hw.1
    obtain ⟨rv1, hp, hw⟩ := hw.2
    refine r_getP C fl_RX6_37_6 hob hp (fun _ _ _ => rfl) dX6_mostMetAnywhere_220 ?_
    refine r_aload_n C dX6_mostMetAnywhere_223 0 rfl ?_
    refine r_getI C fl_RX6_169_6 hw.1 (fun _ _ _ => rfl) dX6_mostMetAnywhere_224 ?_
    replace hw := hw.2
    have hob := hw.1
    replace hw := hw.2
    refine r_callV C (As := [.int (aI h al0 12)]) (rest := [.ref (G.1 + al0)]) (c_X0_notSoIn G h rv1 (aI h al0 12) _ hw) yl_X0_notSoIn (gm5 (List.mem_of_getElem? (i := 233) rfl) rfl) (gm5 (List.mem_of_getElem? (i := 234) rfl) rfl) (ci := 0) rfl (by decide) (gm5 (List.mem_of_getElem? (i := 235) rfl) rfl) hob (by decide) rfl (Nat.le_of_ble_eq_true rfl) dX6_mostMetAnywhere_227 rfl (kI fun hv2 iv3 hw => ?_)
    refine r_putI C fp_RX6_30_6 hw.1 rfl dX6_mostMetAnywhere_230 ?_
    replace hw := hw.2
    refine r_toph fun hv4 ehv4 => ?_
    replace hw := hw hv4 ehv4
    refine r_aload_n C dX6_mostMetAnywhere_233 0 rfl ?_
    refine r_getI C fl_RX6_166_6 hw.1 (fun _ _ _ => rfl) dX6_mostMetAnywhere_234 ?_
    replace hw := hw.2
    exact r_iret C hr dX6_mostMetAnywhere_237 hw
  · replace hw := hw.2 hc
    refine r_aload_n C dX6_mostMetAnywhere_185 0 rfl ?_
    have hob := hw.1
    obtain ⟨rv5, hp, hw⟩ := hw.2
    refine r_getP C fl_RX6_27_6 hob hp (fun _ _ _ => rfl) dX6_mostMetAnywhere_186 ?_
    refine r_iload_n C dX6_mostMetAnywhere_189 1 rfl ?_
    refine r_aload_n C dX6_mostMetAnywhere_190 0 rfl ?_
    have hob := hw.1
    obtain ⟨rv6, hp, hw⟩ := hw.2
    refine r_getP C fl_RX6_37_6 hob hp (fun _ _ _ => rfl) dX6_mostMetAnywhere_191 ?_
    have hob := hw.1
    obtain ⟨rv7, hp, hw⟩ := hw.2
    refine r_getP C fl_RX6_189_0 hob hp (fun _ _ _ => rfl) dX6_mostMetAnywhere_194 ?_
    refine r_iload_n C dX6_mostMetAnywhere_197 1 rfl ?_
    refine r_bipush (v := 40) C dX6_mostMetAnywhere_198 (by decide) ?_
    refine r_imul C dX6_mostMetAnywhere_200 ?_
    refine r_aload_n C dX6_mostMetAnywhere_201 0 rfl ?_
    refine r_getI C fl_RX6_169_6 hw.1 (fun _ _ _ => rfl) dX6_mostMetAnywhere_202 ?_
    replace hw := hw.2
    refine r_iload_n C dX6_mostMetAnywhere_205 1 rfl ?_
    refine r_callS C (As := [.int (aI h al0 12), .int xl3]) (rest := [.int (xl3 * (40 : Int32)), .ref (G.1 + rv7), .int xl3, .ref (G.1 + rv5)]) (c_X0_numberIn G h (aI h al0 12) xl3 _ hw) yl_X0_numberIn (gm5 (List.mem_of_getElem? (i := 158) rfl) rfl) (gm5 (List.mem_of_getElem? (i := 159) rfl) rfl) (by decide) rfl (Nat.le_of_ble_eq_true rfl) dX6_mostMetAnywhere_206 rfl (kI fun hv8 iv9 hw => ?_)
    refine r_iadd C dX6_mostMetAnywhere_209 ?_
    refine r_iaload C hw.1 hw.2.1 dX6_mostMetAnywhere_210 ?_
    replace hw := hw.2.2
    refine r_iastore C hw.1 hw.2.1 dX6_mostMetAnywhere_211 ?_
    replace hw := hw.2.2
    refine r_toph fun hv10 ehv10 => ?_
    replace hw := hw hv10 ehv10
    obtain ⟨iv11, eiv11⟩ : ∃ q : Int32, q = xl3 + 1 := ⟨_, rfl⟩
    replace hw := hw iv11 eiv11
    refine r_iinc C dX6_mostMetAnywhere_212 1 rfl (by rw [eiv11]; rfl) [(3, .int iv11), (0, .ref (G.1 + al0))] (by decide) rfl ?_
    refine r_goto C dX6_mostMetAnywhere_215 177 (by decide) ?_
    refine r_sub [1, 0] rfl ?_
    exact hK177 _ _ _ hw
def wl_X6_mostMetAnywhere_177  (post : AH → Int32 → Prop) : Nat → AH → Nat → Int32 → Prop
  | 0 => fun _ _ _ => False
  | n + 1 => fun h al0 xl3 => wb_X6_mostMetAnywhere_177  (wl_X6_mostMetAnywhere_177  post n) h al0 xl3 post
theorem tl_X6_mostMetAnywhere_177 {G : GG} {p : Program} {l : Launch} {e : Env} {R : Room} {s : State} {m : MethodId} {args : Array Value} {below : List Frame} {meth : Method} {c : Code} {n0 s0 : Nat} {post : AH → Int32 → Prop} (C : Cx G p R s m args meth c 8 cX6_mostMetAnywhere RX6 n0 s0 5 123) (hr : meth.sig.returnType = (some .int))   : ∀ (n : Nat) (h : AH) (al0 : Nat) (xl3 : Int32), wl_X6_mostMetAnywhere_177  post n h al0 xl3 → AW G p l e R s m args below meth c 8 (QM G (pI post) args s below n0 s0) 177 [(0, .ref (G.1 + al0)), (3, .int xl3)] [] h := by
  intro n
  induction n with
  | zero => intro h al0 xl3 hw; exact hw.elim
  | succ n ih => intro h al0 xl3 hw; exact tb_X6_mostMetAnywhere_177 C hr  ih hw
def wb_X6_mostMetAnywhere_151 (K50 : AH → Nat → Nat → Int32 → Int32 → Prop) (K81 : AH → Nat → Nat → Int32 → Int32 → Int64 → Int32 → Prop) (h : AH) (al0 : Nat) (al1 : Nat) (xl2 : Int32) (xl3 : Int32) (zl4 : Int64) (xl6 : Int32)  (post : AH → Int32 → Prop) : Prop := ∀ iv1 : Int32, iv1 = xl6 + 1 → (K81 h al0 al1 xl2 xl3 zl4 iv1)
set_option maxRecDepth 100000 in
theorem tb_X6_mostMetAnywhere_151 {G : GG} {p : Program} {l : Launch} {e : Env} {R : Room} {s : State} {m : MethodId} {args : Array Value} {below : List Frame} {meth : Method} {c : Code} {n0 s0 : Nat} {post : AH → Int32 → Prop} (C : Cx G p R s m args meth c 8 cX6_mostMetAnywhere RX6 n0 s0 5 123) (hr : meth.sig.returnType = (some .int)) {K50 : AH → Nat → Nat → Int32 → Int32 → Prop} {K81 : AH → Nat → Nat → Int32 → Int32 → Int64 → Int32 → Prop} (hK50 : ∀ (h : AH) (al0 : Nat) (al1 : Nat) (xl2 : Int32) (xl3 : Int32), K50 h al0 al1 xl2 xl3 → AW G p l e R s m args below meth c 8 (QM G (pI post) args s below n0 s0) 50 [(0, .ref (G.1 + al0)), (1, .ref (G.1 + al1)), (2, .int xl2), (3, .int xl3)] [] h) (hK81 : ∀ (h : AH) (al0 : Nat) (al1 : Nat) (xl2 : Int32) (xl3 : Int32) (zl4 : Int64) (xl6 : Int32), K81 h al0 al1 xl2 xl3 zl4 xl6 → AW G p l e R s m args below meth c 8 (QM G (pI post) args s below n0 s0) 81 [(0, .ref (G.1 + al0)), (1, .ref (G.1 + al1)), (2, .int xl2), (3, .int xl3), (4, .long zl4), (6, .int xl6)] [] h) {h : AH} {al0 : Nat} {al1 : Nat} {xl2 : Int32} {xl3 : Int32} {zl4 : Int64} {xl6 : Int32}  (hw : wb_X6_mostMetAnywhere_151 K50 K81 h al0 al1 xl2 xl3 zl4 xl6 post) : AW G p l e R s m args below meth c 8 (QM G (pI post) args s below n0 s0) 151 [(0, .ref (G.1 + al0)), (1, .ref (G.1 + al1)), (2, .int xl2), (3, .int xl3), (4, .long zl4), (6, .int xl6)] [] h := by
  unfold wb_X6_mostMetAnywhere_151 at hw
  obtain ⟨iv1, eiv1⟩ : ∃ q : Int32, q = xl6 + 1 := ⟨_, rfl⟩
  replace hw := hw iv1 eiv1
  refine r_iinc C dX6_mostMetAnywhere_151 5 rfl (by rw [eiv1]; rfl) [(6, .int iv1), (0, .ref (G.1 + al0)), (1, .ref (G.1 + al1)), (2, .int xl2), (3, .int xl3), (4, .long zl4)] (by decide) rfl ?_
  refine r_goto C dX6_mostMetAnywhere_154 81 (by decide) ?_
  refine r_sub [1, 2, 3, 4, 5, 0] rfl ?_
  exact hK81 _ _ _ _ _ _ _ hw
def wb_X6_mostMetAnywhere_81 (K50 : AH → Nat → Nat → Int32 → Int32 → Prop) (K81 : AH → Nat → Nat → Int32 → Int32 → Int64 → Int32 → Prop) (h : AH) (al0 : Nat) (al1 : Nat) (xl2 : Int32) (xl3 : Int32) (zl4 : Int64) (xl6 : Int32)  (post : AH → Int32 → Prop) : Prop := (ob h al0 6) ∧ (∃ rv1, aP h al0 0 = some rv1 ∧ ((ob h rv1 0) ∧ (∃ rv2, aP h rv1 1 = some rv2 ∧ ((ob h rv2 13) ∧ ((vp_in 1 (aL h rv2)) ∧ (((aI h rv2 (1 : Int32).toNatClampNeg) ≤ xl6 → (∀ iv3 : Int32, iv3 = xl3 + 1 → (K50 h al0 al1 xl2 iv3))) ∧ (¬ (aI h rv2 (1 : Int32).toNatClampNeg) ≤ xl6 → (∀ iv4 : Int32, iv4 = (xl3 <<< ((12 : Int32) &&& 31)) ||| (xl6 <<< ((6 : Int32) &&& 31)) → (((lg_cmp (((zl4.toUInt64 >>> (xl6.toInt64.toUInt64 &&& Int64.toUInt64 63)).toInt64) &&& (1 : Int64)) 0) = 0 → (wb_X6_mostMetAnywhere_151 K50 K81 h al0 al1 xl2 xl3 zl4 xl6 post)) ∧ (¬ (lg_cmp (((zl4.toUInt64 >>> (xl6.toInt64.toUInt64 &&& Int64.toUInt64 63)).toInt64) &&& (1 : Int64)) 0) = 0 → ((ob h al0 6) ∧ (∃ rv5, aP h al0 7 = some rv5 ∧ ((ob h al0 6) ∧ (∃ rv6, aP h al0 0 = some rv6 ∧ ((ob h rv6 0) ∧ wp_X0_notSoByTwo h rv6 iv4 (fun hv7 iv8 => (ob hv7 rv5 13) ∧ ((vp_in (xl2 &&& (iv8 ^^^ (-1 : Int32))) (aL hv7 rv5)) ∧ ((ob hv7 al0 6) ∧ (((aI hv7 rv5 (xl2 &&& (iv8 ^^^ (-1 : Int32))).toNatClampNeg) ≤ (aI hv7 al0 11) → (wb_X6_mostMetAnywhere_151 K50 K81 hv7 al0 al1 xl2 xl3 zl4 xl6 post)) ∧ (¬ (aI hv7 rv5 (xl2 &&& (iv8 ^^^ (-1 : Int32))).toNatClampNeg) ≤ (aI hv7 al0 11) → ((ob hv7 al0 6) ∧ wp_X6_tryLast hv7 al0 iv4 xl2 (fun hv9  => wb_X6_mostMetAnywhere_151 K50 K81 hv9 al0 al1 xl2 xl3 zl4 xl6 post))))))))))))))))))))))
set_option maxRecDepth 100000 in
theorem tb_X6_mostMetAnywhere_81 {G : GG} {p : Program} {l : Launch} {e : Env} {R : Room} {s : State} {m : MethodId} {args : Array Value} {below : List Frame} {meth : Method} {c : Code} {n0 s0 : Nat} {post : AH → Int32 → Prop} (C : Cx G p R s m args meth c 8 cX6_mostMetAnywhere RX6 n0 s0 5 123) (hr : meth.sig.returnType = (some .int)) {K50 : AH → Nat → Nat → Int32 → Int32 → Prop} {K81 : AH → Nat → Nat → Int32 → Int32 → Int64 → Int32 → Prop} (hK50 : ∀ (h : AH) (al0 : Nat) (al1 : Nat) (xl2 : Int32) (xl3 : Int32), K50 h al0 al1 xl2 xl3 → AW G p l e R s m args below meth c 8 (QM G (pI post) args s below n0 s0) 50 [(0, .ref (G.1 + al0)), (1, .ref (G.1 + al1)), (2, .int xl2), (3, .int xl3)] [] h) (hK81 : ∀ (h : AH) (al0 : Nat) (al1 : Nat) (xl2 : Int32) (xl3 : Int32) (zl4 : Int64) (xl6 : Int32), K81 h al0 al1 xl2 xl3 zl4 xl6 → AW G p l e R s m args below meth c 8 (QM G (pI post) args s below n0 s0) 81 [(0, .ref (G.1 + al0)), (1, .ref (G.1 + al1)), (2, .int xl2), (3, .int xl3), (4, .long zl4), (6, .int xl6)] [] h) {h : AH} {al0 : Nat} {al1 : Nat} {xl2 : Int32} {xl3 : Int32} {zl4 : Int64} {xl6 : Int32}  (hw : wb_X6_mostMetAnywhere_81 K50 K81 h al0 al1 xl2 xl3 zl4 xl6 post) : AW G p l e R s m args below meth c 8 (QM G (pI post) args s below n0 s0) 81 [(0, .ref (G.1 + al0)), (1, .ref (G.1 + al1)), (2, .int xl2), (3, .int xl3), (4, .long zl4), (6, .int xl6)] [] h := by
  unfold wb_X6_mostMetAnywhere_81 at hw
  refine r_iload C dX6_mostMetAnywhere_81 5 rfl ?_
  refine r_aload_n C dX6_mostMetAnywhere_83 0 rfl ?_
  have hob := hw.1
  obtain ⟨rv1, hp, hw⟩ := hw.2
  refine r_getP C fl_RX6_37_6 hob hp (fun _ _ _ => rfl) dX6_mostMetAnywhere_84 ?_
  have hob := hw.1
  obtain ⟨rv2, hp, hw⟩ := hw.2
  refine r_getP C fl_RX6_172_0 hob hp (fun _ _ _ => rfl) dX6_mostMetAnywhere_87 ?_
  refine r_iconst (v := 1) C dX6_mostMetAnywhere_90 (by decide) ?_
  refine r_iaload C hw.1 hw.2.1 dX6_mostMetAnywhere_91 ?_
  replace hw := hw.2.2
  refine r_icmp_ge C dX6_mostMetAnywhere_92 157 (by decide) (fun hc => ?_) (fun hc => ?_)
  · replace hw := hw.1 hc
    obtain ⟨iv3, eiv3⟩ : ∃ q : Int32, q = xl3 + 1 := ⟨_, rfl⟩
    replace hw := hw iv3 eiv3
    refine r_iinc C dX6_mostMetAnywhere_157 3 rfl (by rw [eiv3]; rfl) [(3, .int iv3), (0, .ref (G.1 + al0)), (1, .ref (G.1 + al1)), (2, .int xl2), (4, .long zl4), (6, .int xl6)] (by decide) rfl ?_
    refine r_goto C dX6_mostMetAnywhere_160 50 (by decide) ?_
    refine r_sub [1, 2, 3, 0] rfl ?_
    exact hK50 _ _ _ _ _ hw
  · replace hw := hw.2 hc
    refine r_iload_n C dX6_mostMetAnywhere_95 3 rfl ?_
    refine r_bipush (v := 12) C dX6_mostMetAnywhere_96 (by decide) ?_
    refine r_ishl C dX6_mostMetAnywhere_98 ?_
    refine r_iload C dX6_mostMetAnywhere_99 5 rfl ?_
    refine r_bipush (v := 6) C dX6_mostMetAnywhere_101 (by decide) ?_
    refine r_ishl C dX6_mostMetAnywhere_103 ?_
    refine r_ior C dX6_mostMetAnywhere_104 ?_
    refine r_topi fun iv4 eiv4 => ?_
    replace hw := hw iv4 eiv4
    refine r_istore C dX6_mostMetAnywhere_105 [(7, .int iv4), (0, .ref (G.1 + al0)), (1, .ref (G.1 + al1)), (2, .int xl2), (3, .int xl3), (4, .long zl4), (6, .int xl6)] (by decide) rfl ?_
    refine r_lload C dX6_mostMetAnywhere_107 5 rfl ?_
    refine r_iload C dX6_mostMetAnywhere_109 6 rfl ?_
    refine r_lushr C dX6_mostMetAnywhere_111 ?_
    refine r_lconst (v := 1) C dX6_mostMetAnywhere_112 (by decide) ?_
    refine r_land C dX6_mostMetAnywhere_113 ?_
    refine r_lconst (v := 0) C dX6_mostMetAnywhere_114 (by decide) ?_
    refine r_lcmp C dX6_mostMetAnywhere_115 ?_
    refine r_if_eq C dX6_mostMetAnywhere_116 151 (by decide) (fun hc => ?_) (fun hc => ?_)
    · replace hw := hw.1 hc
      refine r_sub [1, 2, 3, 4, 5, 6] rfl ?_
      exact tb_X6_mostMetAnywhere_151 C hr hK50 hK81 hw
    · replace hw := hw.2 hc
      refine r_aload_n C dX6_mostMetAnywhere_119 1 rfl ?_
      have hob := hw.1
      obtain ⟨rv5, hp, hw⟩ := hw.2
      refine r_getP C fl_RX6_20_6 hob hp (fun _ _ _ => rfl) dX6_mostMetAnywhere_120 ?_
      refine r_iload_n C dX6_mostMetAnywhere_123 3 rfl ?_
      refine r_aload_n C dX6_mostMetAnywhere_124 1 rfl ?_
      have hob := hw.1
      obtain ⟨rv6, hp, hw⟩ := hw.2
      refine r_getP C fl_RX6_37_6 hob hp (fun _ _ _ => rfl) dX6_mostMetAnywhere_125 ?_
      refine r_iload C dX6_mostMetAnywhere_128 0 rfl ?_
      have hob := hw.1
      replace hw := hw.2
      refine r_callV C (As := [.int iv4]) (rest := [.int xl2, .ref (G.1 + rv5)]) (c_X0_notSoByTwo G h rv6 iv4 _ hw) yl_X0_notSoByTwo (gm6 (List.mem_of_getElem? (i := 13) rfl) rfl) (gm5 (List.mem_of_getElem? (i := 238) rfl) rfl) (ci := 0) rfl (by decide) (gm5 (List.mem_of_getElem? (i := 239) rfl) rfl) hob (by decide) rfl (Nat.le_of_ble_eq_true rfl) dX6_mostMetAnywhere_130 rfl (kI fun hv7 iv8 hw => ?_)
      refine r_iconst (v := (-1)) C dX6_mostMetAnywhere_133 (by decide) ?_
      refine r_ixor C dX6_mostMetAnywhere_134 ?_
      refine r_iand C dX6_mostMetAnywhere_135 ?_
      refine r_iaload C hw.1 hw.2.1 dX6_mostMetAnywhere_136 ?_
      replace hw := hw.2.2
      refine r_aload_n C dX6_mostMetAnywhere_137 1 rfl ?_
      refine r_getI C fl_RX6_166_6 hw.1 (fun _ _ _ => rfl) dX6_mostMetAnywhere_138 ?_
      replace hw := hw.2
      refine r_icmp_le C dX6_mostMetAnywhere_141 151 (by decide) (fun hc => ?_) (fun hc => ?_)
      · replace hw := hw.1 hc
        refine r_sub [1, 2, 3, 4, 5, 6] rfl ?_
        exact tb_X6_mostMetAnywhere_151 C hr hK50 hK81 hw
      · replace hw := hw.2 hc
        refine r_aload_n C dX6_mostMetAnywhere_144 1 rfl ?_
        refine r_iload C dX6_mostMetAnywhere_145 0 rfl ?_
        refine r_iload_n C dX6_mostMetAnywhere_147 3 rfl ?_
        have hob := hw.1
        replace hw := hw.2
        refine r_callV C (As := [.int iv4, .int xl2]) (rest := []) (c_X6_tryLast G hv7 al0 iv4 xl2 _ hw) yl_X6_tryLast (gm6 (List.mem_of_getElem? (i := 14) rfl) rfl) (gm6 (List.mem_of_getElem? (i := 16) rfl) rfl) (ci := 6) rfl (by decide) (gsel (List.mem_of_getElem? (i := 36) rfl)) hob (by decide) rfl (Nat.le_of_ble_eq_true rfl) dX6_mostMetAnywhere_148 rfl (kV fun hv9  hw => ?_)
        refine r_sub [1, 2, 3, 4, 5, 6] rfl ?_
        exact tb_X6_mostMetAnywhere_151 C hr hK50 hK81 hw
def wl_X6_mostMetAnywhere_81 (K50 : AH → Nat → Nat → Int32 → Int32 → Prop) (post : AH → Int32 → Prop) : Nat → AH → Nat → Nat → Int32 → Int32 → Int64 → Int32 → Prop
  | 0 => fun _ _ _ _ _ _ _ => False
  | n + 1 => fun h al0 al1 xl2 xl3 zl4 xl6 => wb_X6_mostMetAnywhere_81 K50 (wl_X6_mostMetAnywhere_81 K50 post n) h al0 al1 xl2 xl3 zl4 xl6 post
theorem tl_X6_mostMetAnywhere_81 {G : GG} {p : Program} {l : Launch} {e : Env} {R : Room} {s : State} {m : MethodId} {args : Array Value} {below : List Frame} {meth : Method} {c : Code} {n0 s0 : Nat} {post : AH → Int32 → Prop} (C : Cx G p R s m args meth c 8 cX6_mostMetAnywhere RX6 n0 s0 5 123) (hr : meth.sig.returnType = (some .int)) {K50 : AH → Nat → Nat → Int32 → Int32 → Prop} (hK50 : ∀ (h : AH) (al0 : Nat) (al1 : Nat) (xl2 : Int32) (xl3 : Int32), K50 h al0 al1 xl2 xl3 → AW G p l e R s m args below meth c 8 (QM G (pI post) args s below n0 s0) 50 [(0, .ref (G.1 + al0)), (1, .ref (G.1 + al1)), (2, .int xl2), (3, .int xl3)] [] h) : ∀ (n : Nat) (h : AH) (al0 : Nat) (al1 : Nat) (xl2 : Int32) (xl3 : Int32) (zl4 : Int64) (xl6 : Int32), wl_X6_mostMetAnywhere_81 K50 post n h al0 al1 xl2 xl3 zl4 xl6 → AW G p l e R s m args below meth c 8 (QM G (pI post) args s below n0 s0) 81 [(0, .ref (G.1 + al0)), (1, .ref (G.1 + al1)), (2, .int xl2), (3, .int xl3), (4, .long zl4), (6, .int xl6)] [] h := by
  intro n
  induction n with
  | zero => intro h al0 al1 xl2 xl3 zl4 xl6 hw; exact hw.elim
  | succ n ih => intro h al0 al1 xl2 xl3 zl4 xl6 hw; exact tb_X6_mostMetAnywhere_81 C hr hK50 ih hw
def wb_X6_mostMetAnywhere_50 (K50 : AH → Nat → Nat → Int32 → Int32 → Prop) (h : AH) (al0 : Nat) (al1 : Nat) (xl2 : Int32) (xl3 : Int32)  (post : AH → Int32 → Prop) : Prop := (ob h al0 6) ∧ (∃ rv1, aP h al0 0 = some rv1 ∧ ((ob h rv1 0) ∧ (∃ rv2, aP h rv1 1 = some rv2 ∧ ((ob h rv2 13) ∧ ((vp_in 0 (aL h rv2)) ∧ (((aI h rv2 (0 : Int32).toNatClampNeg) ≤ xl3 → ((ob h al1 1) ∧ ((ob h al0 6) ∧ (∀ hv3 : AH, hv3 = hI h al0 13 (mn (aI h al1 5) (3 : Int32)) → (∃ n, wl_X6_mostMetAnywhere_177  post n hv3 al0 0))))) ∧ (¬ (aI h rv2 (0 : Int32).toNatClampNeg) ≤ xl3 → ((ob h al0 6) ∧ (∃ rv4, aP h al0 0 = some rv4 ∧ ((ob h rv4 0) ∧ wp_X0_roomFor h rv4 1 (xl3 <<< ((12 : Int32) &&& 31)) 0 (fun hv5 jv6 => ∃ n, wl_X6_mostMetAnywhere_81 K50 post n hv5 al0 al1 xl2 xl3 jv6 0)))))))))))
set_option maxRecDepth 100000 in
theorem tb_X6_mostMetAnywhere_50 {G : GG} {p : Program} {l : Launch} {e : Env} {R : Room} {s : State} {m : MethodId} {args : Array Value} {below : List Frame} {meth : Method} {c : Code} {n0 s0 : Nat} {post : AH → Int32 → Prop} (C : Cx G p R s m args meth c 8 cX6_mostMetAnywhere RX6 n0 s0 5 123) (hr : meth.sig.returnType = (some .int)) {K50 : AH → Nat → Nat → Int32 → Int32 → Prop} (hK50 : ∀ (h : AH) (al0 : Nat) (al1 : Nat) (xl2 : Int32) (xl3 : Int32), K50 h al0 al1 xl2 xl3 → AW G p l e R s m args below meth c 8 (QM G (pI post) args s below n0 s0) 50 [(0, .ref (G.1 + al0)), (1, .ref (G.1 + al1)), (2, .int xl2), (3, .int xl3)] [] h) {h : AH} {al0 : Nat} {al1 : Nat} {xl2 : Int32} {xl3 : Int32}  (hw : wb_X6_mostMetAnywhere_50 K50 h al0 al1 xl2 xl3 post) : AW G p l e R s m args below meth c 8 (QM G (pI post) args s below n0 s0) 50 [(0, .ref (G.1 + al0)), (1, .ref (G.1 + al1)), (2, .int xl2), (3, .int xl3)] [] h := by
  unfold wb_X6_mostMetAnywhere_50 at hw
  refine r_iload_n C dX6_mostMetAnywhere_50 3 rfl ?_
  refine r_aload_n C dX6_mostMetAnywhere_51 0 rfl ?_
  have hob := hw.1
  obtain ⟨rv1, hp, hw⟩ := hw.2
  refine r_getP C fl_RX6_37_6 hob hp (fun _ _ _ => rfl) dX6_mostMetAnywhere_52 ?_
  have hob := hw.1
  obtain ⟨rv2, hp, hw⟩ := hw.2
  refine r_getP C fl_RX6_172_0 hob hp (fun _ _ _ => rfl) dX6_mostMetAnywhere_55 ?_
  refine r_iconst (v := 0) C dX6_mostMetAnywhere_58 (by decide) ?_
  refine r_iaload C hw.1 hw.2.1 dX6_mostMetAnywhere_59 ?_
  replace hw := hw.2.2
  refine r_icmp_ge C dX6_mostMetAnywhere_60 163 (by decide) (fun hc => ?_) (fun hc => ?_)
  · replace hw := hw.1 hc
    refine r_aload_n C dX6_mostMetAnywhere_163 0 rfl ?_
    refine r_aload_n C dX6_mostMetAnywhere_164 1 rfl ?_
    refine r_getI C fl_RX6_102_1 hw.1 (fun _ _ _ => rfl) dX6_mostMetAnywhere_165 ?_
    replace hw := hw.2
    refine r_iconst (v := 3) C dX6_mostMetAnywhere_168 (by decide) ?_
    refine r_mmin C (gm6 (List.mem_of_getElem? (i := 18) rfl) rfl) (gm3 (List.mem_of_getElem? (i := 122) rfl) rfl) (gm1 (List.mem_of_getElem? (i := 19) rfl) rfl) (gm3 (List.mem_of_getElem? (i := 123) rfl) rfl) ⟨by decide, Nat.le_of_ble_eq_true rfl⟩ dX6_mostMetAnywhere_169 ?_
    refine r_putI C fp_RX6_186_6 hw.1 rfl dX6_mostMetAnywhere_172 ?_
    replace hw := hw.2
    refine r_toph fun hv3 ehv3 => ?_
    replace hw := hw hv3 ehv3
    refine r_iconst (v := 0) C dX6_mostMetAnywhere_175 (by decide) ?_
    refine r_istore_n C dX6_mostMetAnywhere_176 [(3, .int 0), (0, .ref (G.1 + al0)), (1, .ref (G.1 + al1)), (2, .int xl2)] (by decide) rfl ?_
    refine r_sub [1, 0] rfl ?_
    obtain ⟨n, hw⟩ := hw
    exact tl_X6_mostMetAnywhere_177 C hr  n _ _ _ hw
  · replace hw := hw.2 hc
    refine r_aload_n C dX6_mostMetAnywhere_63 0 rfl ?_
    have hob := hw.1
    obtain ⟨rv4, hp, hw⟩ := hw.2
    refine r_getP C fl_RX6_37_6 hob hp (fun _ _ _ => rfl) dX6_mostMetAnywhere_64 ?_
    refine r_iconst (v := 1) C dX6_mostMetAnywhere_67 (by decide) ?_
    refine r_iload_n C dX6_mostMetAnywhere_68 3 rfl ?_
    refine r_bipush (v := 12) C dX6_mostMetAnywhere_69 (by decide) ?_
    refine r_ishl C dX6_mostMetAnywhere_71 ?_
    refine r_iconst (v := 0) C dX6_mostMetAnywhere_72 (by decide) ?_
    have hob := hw.1
    replace hw := hw.2
    refine r_callV C (As := [.int 1, .int (xl3 <<< ((12 : Int32) &&& 31)), .int 0]) (rest := []) (c_X0_roomFor G h rv4 1 (xl3 <<< ((12 : Int32) &&& 31)) 0 _ hw) yl_X0_roomFor (gm5 (List.mem_of_getElem? (i := 161) rfl) rfl) (gm5 (List.mem_of_getElem? (i := 162) rfl) rfl) (ci := 0) rfl (by decide) (gm5 (List.mem_of_getElem? (i := 163) rfl) rfl) hob (by decide) rfl (Nat.le_of_ble_eq_true rfl) dX6_mostMetAnywhere_73 rfl (kJ fun hv5 jv6 hw => ?_)
    refine r_lstore C dX6_mostMetAnywhere_76 [(4, .long jv6), (0, .ref (G.1 + al0)), (1, .ref (G.1 + al1)), (2, .int xl2), (3, .int xl3)] (by decide) rfl ?_
    refine r_iconst (v := 0) C dX6_mostMetAnywhere_78 (by decide) ?_
    refine r_istore C dX6_mostMetAnywhere_79 [(6, .int 0), (4, .long jv6), (0, .ref (G.1 + al0)), (1, .ref (G.1 + al1)), (2, .int xl2), (3, .int xl3)] (by decide) rfl ?_
    refine r_sub [2, 3, 4, 5, 1, 0] rfl ?_
    obtain ⟨n, hw⟩ := hw
    exact tl_X6_mostMetAnywhere_81 C hr hK50 n _ _ _ _ _ _ _ hw
def wl_X6_mostMetAnywhere_50  (post : AH → Int32 → Prop) : Nat → AH → Nat → Nat → Int32 → Int32 → Prop
  | 0 => fun _ _ _ _ _ => False
  | n + 1 => fun h al0 al1 xl2 xl3 => wb_X6_mostMetAnywhere_50  (wl_X6_mostMetAnywhere_50  post n) h al0 al1 xl2 xl3 post
theorem tl_X6_mostMetAnywhere_50 {G : GG} {p : Program} {l : Launch} {e : Env} {R : Room} {s : State} {m : MethodId} {args : Array Value} {below : List Frame} {meth : Method} {c : Code} {n0 s0 : Nat} {post : AH → Int32 → Prop} (C : Cx G p R s m args meth c 8 cX6_mostMetAnywhere RX6 n0 s0 5 123) (hr : meth.sig.returnType = (some .int))   : ∀ (n : Nat) (h : AH) (al0 : Nat) (al1 : Nat) (xl2 : Int32) (xl3 : Int32), wl_X6_mostMetAnywhere_50  post n h al0 al1 xl2 xl3 → AW G p l e R s m args below meth c 8 (QM G (pI post) args s below n0 s0) 50 [(0, .ref (G.1 + al0)), (1, .ref (G.1 + al1)), (2, .int xl2), (3, .int xl3)] [] h := by
  intro n
  induction n with
  | zero => intro h al0 al1 xl2 xl3 hw; exact hw.elim
  | succ n ih => intro h al0 al1 xl2 xl3 hw; exact tb_X6_mostMetAnywhere_50 C hr  ih hw
def wp_X6_mostMetAnywhere (h : AH) (a0 : Nat) (a1 : Nat) (post : AH → Int32 → Prop) : Prop := (ob h a0 6) ∧ (∃ rv1, aP h a0 0 = some rv1 ∧ ((ob h rv1 0) ∧ wp_X0_list h rv1 a1 (fun hv2  => (ob hv2 a0 6) ∧ (∃ rv3, aP hv2 a0 0 = some rv3 ∧ ((ob hv2 rv3 0) ∧ wp_X0_weigh hv2 rv3  (fun hv4  => (ob hv4 a1 1) ∧ (∃ rv5, aP hv4 a1 15 = some rv5 ∧ ((ob hv4 a0 6) ∧ (∃ rv6, aP hv4 a0 7 = some rv6 ∧ ((ob hv4 rv5 9) ∧ wp_X10_sumUp hv4 rv5 rv6 (fun hv7  => (ob hv7 a1 1) ∧ (∃ rv8, aP hv7 a1 15 = some rv8 ∧ ((ob hv7 rv8 9) ∧ (∀ iv9 : Int32, iv9 = ((1 : Int32) <<< ((aI hv7 rv8 0) &&& 31)) - (1 : Int32) → ((ob hv7 a0 6) ∧ (∀ hv10 : AH, hv10 = hI hv7 a0 11 (-1) → ((ob hv10 a0 6) ∧ (∀ hv11 : AH, hv11 = hI hv10 a0 12 0 → (∃ n, wl_X6_mostMetAnywhere_50  post n hv11 a0 a1 iv9 0)))))))))))))))))))
set_option maxRecDepth 100000 in
theorem c_X6_mostMetAnywhere (G : GG) (h : AH) (a0 : Nat) (a1 : Nat) (post : AH → Int32 → Prop) (hw : wp_X6_mostMetAnywhere h a0 a1 post) : MC G yX6_mostMetAnywhere cX6_mostMetAnywhere 8 (some .int) 5 123 h [.ref (G.1 + a0), .ref (G.1 + a1)] (pI post) := by
  refine MC.of (lv := [(0, .ref (G.1 + a0)), (1, .ref (G.1 + a1))]) (by decide) (Nat.le_of_ble_eq_true rfl) rfl fun p l e R s m args below meth c C hr hnm => ?_
  unfold wp_X6_mostMetAnywhere at hw
  refine r_aload_n C dX6_mostMetAnywhere_0 0 rfl ?_
  have hob := hw.1
  obtain ⟨rv1, hp, hw⟩ := hw.2
  refine r_getP C fl_RX6_37_6 hob hp (fun _ _ _ => rfl) dX6_mostMetAnywhere_1 ?_
  refine r_aload_n C dX6_mostMetAnywhere_4 1 rfl ?_
  have hob := hw.1
  replace hw := hw.2
  refine r_callV C (As := [.ref (G.1 + a1)]) (rest := []) (c_X0_list G h rv1 a1 _ hw) yl_X0_list (gm5 (List.mem_of_getElem? (i := 88) rfl) rfl) (gm5 (List.mem_of_getElem? (i := 89) rfl) rfl) (ci := 0) rfl (by decide) (gm5 (List.mem_of_getElem? (i := 90) rfl) rfl) hob (by decide) rfl (Nat.le_of_ble_eq_true rfl) dX6_mostMetAnywhere_5 rfl (kV fun hv2  hw => ?_)
  refine r_aload_n C dX6_mostMetAnywhere_8 0 rfl ?_
  have hob := hw.1
  obtain ⟨rv3, hp, hw⟩ := hw.2
  refine r_getP C fl_RX6_37_6 hob hp (fun _ _ _ => rfl) dX6_mostMetAnywhere_9 ?_
  have hob := hw.1
  replace hw := hw.2
  refine r_callV C (As := []) (rest := []) (c_X0_weigh G hv2 rv3  _ hw) yl_X0_weigh (gm5 (List.mem_of_getElem? (i := 216) rfl) rfl) (gm5 (List.mem_of_getElem? (i := 217) rfl) rfl) (ci := 0) rfl (by decide) (gm5 (List.mem_of_getElem? (i := 218) rfl) rfl) hob (by decide) rfl (Nat.le_of_ble_eq_true rfl) dX6_mostMetAnywhere_12 rfl (kV fun hv4  hw => ?_)
  refine r_aload_n C dX6_mostMetAnywhere_15 1 rfl ?_
  have hob := hw.1
  obtain ⟨rv5, hp, hw⟩ := hw.2
  refine r_getP C fl_RX6_134_1 hob hp (fun _ _ _ => rfl) dX6_mostMetAnywhere_16 ?_
  refine r_aload_n C dX6_mostMetAnywhere_19 0 rfl ?_
  have hob := hw.1
  obtain ⟨rv6, hp, hw⟩ := hw.2
  refine r_getP C fl_RX6_20_6 hob hp (fun _ _ _ => rfl) dX6_mostMetAnywhere_20 ?_
  have hob := hw.1
  replace hw := hw.2
  refine r_callV C (As := [.ref (G.1 + rv6)]) (rest := []) (c_X10_sumUp G hv4 rv5 rv6 _ hw) yl_X10_sumUp (gm5 (List.mem_of_getElem? (i := 229) rfl) rfl) (gm5 (List.mem_of_getElem? (i := 230) rfl) rfl) (ci := 9) rfl (by decide) (gm5 (List.mem_of_getElem? (i := 231) rfl) rfl) hob (by decide) rfl (Nat.le_of_ble_eq_true rfl) dX6_mostMetAnywhere_23 rfl (kV fun hv7  hw => ?_)
  refine r_iconst (v := 1) C dX6_mostMetAnywhere_26 (by decide) ?_
  refine r_aload_n C dX6_mostMetAnywhere_27 1 rfl ?_
  have hob := hw.1
  obtain ⟨rv8, hp, hw⟩ := hw.2
  refine r_getP C fl_RX6_134_1 hob hp (fun _ _ _ => rfl) dX6_mostMetAnywhere_28 ?_
  refine r_getI C fl_RX6_144_9 hw.1 (fun _ _ _ => rfl) dX6_mostMetAnywhere_31 ?_
  replace hw := hw.2
  refine r_ishl C dX6_mostMetAnywhere_34 ?_
  refine r_iconst (v := 1) C dX6_mostMetAnywhere_35 (by decide) ?_
  refine r_isub C dX6_mostMetAnywhere_36 ?_
  refine r_topi fun iv9 eiv9 => ?_
  replace hw := hw iv9 eiv9
  refine r_istore_n C dX6_mostMetAnywhere_37 [(2, .int iv9), (0, .ref (G.1 + a0)), (1, .ref (G.1 + a1))] (by decide) rfl ?_
  refine r_aload_n C dX6_mostMetAnywhere_38 1 rfl ?_
  refine r_iconst (v := (-1)) C dX6_mostMetAnywhere_39 (by decide) ?_
  refine r_putI C fp_RX6_166_6 hw.1 rfl dX6_mostMetAnywhere_40 ?_
  replace hw := hw.2
  refine r_toph fun hv10 ehv10 => ?_
  replace hw := hw hv10 ehv10
  refine r_aload_n C dX6_mostMetAnywhere_43 1 rfl ?_
  refine r_iconst (v := 0) C dX6_mostMetAnywhere_44 (by decide) ?_
  refine r_putI C fp_RX6_169_6 hw.1 rfl dX6_mostMetAnywhere_45 ?_
  replace hw := hw.2
  refine r_toph fun hv11 ehv11 => ?_
  replace hw := hw hv11 ehv11
  refine r_iconst (v := 0) C dX6_mostMetAnywhere_48 (by decide) ?_
  refine r_istore_n C dX6_mostMetAnywhere_49 [(3, .int 0), (2, .int iv9), (0, .ref (G.1 + a0)), (1, .ref (G.1 + a1))] (by decide) rfl ?_
  refine r_sub [2, 3, 1, 0] rfl ?_
  obtain ⟨n, hw⟩ := hw
  exact tl_X6_mostMetAnywhere_50 C hr  n _ _ _ _ _ hw
theorem dX8_isSound_0 : decode cX8_isSound 0 = .ok (.lconst 0, 1) := by decide +kernel
theorem dX8_isSound_1 : decode cX8_isSound 1 = .ok (.lstore_n 1, 1) := by decide +kernel
theorem dX8_isSound_2 : decode cX8_isSound 2 = .ok (.iconst 0, 1) := by decide +kernel
theorem dX8_isSound_3 : decode cX8_isSound 3 = .ok (.istore_n 3, 1) := by decide +kernel
theorem dX8_isSound_4 : decode cX8_isSound 4 = .ok (.iload_n 3, 1) := by decide +kernel
theorem dX8_isSound_5 : decode cX8_isSound 5 = .ok (.aload_n 0, 1) := by decide +kernel
theorem dX8_isSound_6 : decode cX8_isSound 6 = .ok (.getfield 19, 3) := by decide +kernel
theorem dX8_isSound_9 : decode cX8_isSound 9 = .ok (.getfield 23, 3) := by decide +kernel
theorem dX8_isSound_12 : decode cX8_isSound 12 = .ok (.if_icmp .ge 50, 3) := by decide +kernel
theorem dX8_isSound_15 : decode cX8_isSound 15 = .ok (.aload_n 0, 1) := by decide +kernel
theorem dX8_isSound_16 : decode cX8_isSound 16 = .ok (.getfield 19, 3) := by decide +kernel
theorem dX8_isSound_19 : decode cX8_isSound 19 = .ok (.iload_n 3, 1) := by decide +kernel
theorem dX8_isSound_20 : decode cX8_isSound 20 = .ok (.aload_n 0, 1) := by decide +kernel
theorem dX8_isSound_21 : decode cX8_isSound 21 = .ok (.getfield 9, 3) := by decide +kernel
theorem dX8_isSound_24 : decode cX8_isSound 24 = .ok (.iload_n 3, 1) := by decide +kernel
theorem dX8_isSound_25 : decode cX8_isSound 25 = .ok (.iaload, 1) := by decide +kernel
theorem dX8_isSound_26 : decode cX8_isSound 26 = .ok (.invokevirtual 58, 3) := by decide +kernel
theorem dX8_isSound_29 : decode cX8_isSound 29 = .ok (.ifCond .eq 16, 3) := by decide +kernel
theorem dX8_isSound_32 : decode cX8_isSound 32 = .ok (.aload_n 0, 1) := by decide +kernel
theorem dX8_isSound_33 : decode cX8_isSound 33 = .ok (.getfield 15, 3) := by decide +kernel
theorem dX8_isSound_36 : decode cX8_isSound 36 = .ok (.iload_n 3, 1) := by decide +kernel
theorem dX8_isSound_37 : decode cX8_isSound 37 = .ok (.laload, 1) := by decide +kernel
theorem dX8_isSound_38 : decode cX8_isSound 38 = .ok (.lload_n 1, 1) := by decide +kernel
theorem dX8_isSound_39 : decode cX8_isSound 39 = .ok (.land, 1) := by decide +kernel
theorem dX8_isSound_40 : decode cX8_isSound 40 = .ok (.lconst 0, 1) := by decide +kernel
theorem dX8_isSound_41 : decode cX8_isSound 41 = .ok (.lcmp, 1) := by decide +kernel
theorem dX8_isSound_42 : decode cX8_isSound 42 = .ok (.ifCond .eq 5, 3) := by decide +kernel
theorem dX8_isSound_45 : decode cX8_isSound 45 = .ok (.iconst 0, 1) := by decide +kernel
theorem dX8_isSound_46 : decode cX8_isSound 46 = .ok (.ireturn, 1) := by decide +kernel
theorem dX8_isSound_47 : decode cX8_isSound 47 = .ok (.lload_n 1, 1) := by decide +kernel
theorem dX8_isSound_48 : decode cX8_isSound 48 = .ok (.aload_n 0, 1) := by decide +kernel
theorem dX8_isSound_49 : decode cX8_isSound 49 = .ok (.getfield 15, 3) := by decide +kernel
theorem dX8_isSound_52 : decode cX8_isSound 52 = .ok (.iload_n 3, 1) := by decide +kernel
theorem dX8_isSound_53 : decode cX8_isSound 53 = .ok (.laload, 1) := by decide +kernel
theorem dX8_isSound_54 : decode cX8_isSound 54 = .ok (.lor, 1) := by decide +kernel
theorem dX8_isSound_55 : decode cX8_isSound 55 = .ok (.lstore_n 1, 1) := by decide +kernel
theorem dX8_isSound_56 : decode cX8_isSound 56 = .ok (.iinc 3 1, 3) := by decide +kernel
theorem dX8_isSound_59 : decode cX8_isSound 59 = .ok (.goto (-55), 3) := by decide +kernel
theorem dX8_isSound_62 : decode cX8_isSound 62 = .ok (.iconst 1, 1) := by decide +kernel
theorem dX8_isSound_63 : decode cX8_isSound 63 = .ok (.ireturn, 1) := by decide +kernel
def wb_X8_isSound_4 (K4 : AH → Nat → Int64 → Int32 → Prop) (h : AH) (al0 : Nat) (zl1 : Int64) (xl3 : Int32)  (post : AH → Int32 → Prop) : Prop := (ob h al0 7) ∧ (∃ rv1, aP h al0 0 = some rv1 ∧ ((ob h rv1 1) ∧ (((aI h rv1 5) ≤ xl3 → (((1 : Int32) = 0 ∨ (1 : Int32) = 1) ∧ post h 1)) ∧ (¬ (aI h rv1 5) ≤ xl3 → ((ob h al0 7) ∧ (∃ rv2, aP h al0 0 = some rv2 ∧ ((ob h al0 7) ∧ (∃ rv3, aP h al0 1 = some rv3 ∧ ((ob h rv3 13) ∧ ((vp_in xl3 (aL h rv3)) ∧ ((ob h rv2 1) ∧ wp_X1_holds h rv2 xl3 (aI h rv3 xl3.toNatClampNeg) (fun hv4 iv5 => (iv5 = 0 → (((0 : Int32) = 0 ∨ (0 : Int32) = 1) ∧ post hv4 0)) ∧ (¬ iv5 = 0 → ((ob hv4 al0 7) ∧ (∃ rv6, aP hv4 al0 2 = some rv6 ∧ ((ob hv4 rv6 14) ∧ ((vp_in xl3 (aL hv4 rv6)) ∧ (((lg_cmp ((aJ hv4 rv6 xl3.toNatClampNeg) &&& zl1) 0) = 0 → ((ob hv4 al0 7) ∧ (∃ rv7, aP hv4 al0 2 = some rv7 ∧ ((ob hv4 rv7 14) ∧ ((vp_in xl3 (aL hv4 rv7)) ∧ (∀ jv8 : Int64, jv8 = zl1 ||| (aJ hv4 rv7 xl3.toNatClampNeg) → (∀ iv9 : Int32, iv9 = xl3 + 1 → (K4 hv4 al0 jv8 iv9)))))))) ∧ (¬ (lg_cmp ((aJ hv4 rv6 xl3.toNatClampNeg) &&& zl1) 0) = 0 → (((0 : Int32) = 0 ∨ (0 : Int32) = 1) ∧ post hv4 0))))))))))))))))))))
set_option maxRecDepth 100000 in
theorem tb_X8_isSound_4 {G : GG} {p : Program} {l : Launch} {e : Env} {R : Room} {s : State} {m : MethodId} {args : Array Value} {below : List Frame} {meth : Method} {c : Code} {n0 s0 : Nat} {post : AH → Int32 → Prop} (C : Cx G p R s m args meth c 4 cX8_isSound RX8 n0 s0 2 44) (hr : meth.sig.returnType = (some .boolean)) {K4 : AH → Nat → Int64 → Int32 → Prop} (hK4 : ∀ (h : AH) (al0 : Nat) (zl1 : Int64) (xl3 : Int32), K4 h al0 zl1 xl3 → AW G p l e R s m args below meth c 4 (QM G (pI post) args s below n0 s0) 4 [(0, .ref (G.1 + al0)), (1, .long zl1), (3, .int xl3)] [] h) {h : AH} {al0 : Nat} {zl1 : Int64} {xl3 : Int32}  (hw : wb_X8_isSound_4 K4 h al0 zl1 xl3 post) : AW G p l e R s m args below meth c 4 (QM G (pI post) args s below n0 s0) 4 [(0, .ref (G.1 + al0)), (1, .long zl1), (3, .int xl3)] [] h := by
  unfold wb_X8_isSound_4 at hw
  refine r_iload_n C dX8_isSound_4 2 rfl ?_
  refine r_aload_n C dX8_isSound_5 0 rfl ?_
  have hob := hw.1
  obtain ⟨rv1, hp, hw⟩ := hw.2
  refine r_getP C fl_RX8_19_7 hob hp (fun _ _ _ => rfl) dX8_isSound_6 ?_
  refine r_getI C fl_RX8_23_1 hw.1 (fun _ _ _ => rfl) dX8_isSound_9 ?_
  replace hw := hw.2
  refine r_icmp_ge C dX8_isSound_12 62 (by decide) (fun hc => ?_) (fun hc => ?_)
  · replace hw := hw.1 hc
    refine r_iconst (v := 1) C dX8_isSound_62 (by decide) ?_
    exact r_zret C hr dX8_isSound_63 hw.1 hw.2
  · replace hw := hw.2 hc
    refine r_aload_n C dX8_isSound_15 0 rfl ?_
    have hob := hw.1
    obtain ⟨rv2, hp, hw⟩ := hw.2
    refine r_getP C fl_RX8_19_7 hob hp (fun _ _ _ => rfl) dX8_isSound_16 ?_
    refine r_iload_n C dX8_isSound_19 2 rfl ?_
    refine r_aload_n C dX8_isSound_20 0 rfl ?_
    have hob := hw.1
    obtain ⟨rv3, hp, hw⟩ := hw.2
    refine r_getP C fl_RX8_9_7 hob hp (fun _ _ _ => rfl) dX8_isSound_21 ?_
    refine r_iload_n C dX8_isSound_24 2 rfl ?_
    refine r_iaload C hw.1 hw.2.1 dX8_isSound_25 ?_
    replace hw := hw.2.2
    have hob := hw.1
    replace hw := hw.2
    refine r_callV C (As := [.int xl3, .int (aI h rv3 xl3.toNatClampNeg)]) (rest := []) (c_X1_holds G h rv2 xl3 (aI h rv3 xl3.toNatClampNeg) _ hw) yl_X1_holds (gm4 (List.mem_of_getElem? (i := 115) rfl) rfl) (gm3 (List.mem_of_getElem? (i := 207) rfl) rfl) (ci := 1) rfl (by decide) (gm3 (List.mem_of_getElem? (i := 208) rfl) rfl) hob (by decide) rfl (Nat.le_of_ble_eq_true rfl) dX8_isSound_26 rfl (kI fun hv4 iv5 hw => ?_)
    refine r_if_eq C dX8_isSound_29 45 (by decide) (fun hc => ?_) (fun hc => ?_)
    · replace hw := hw.1 hc
      refine r_iconst (v := 0) C dX8_isSound_45 (by decide) ?_
      exact r_zret C hr dX8_isSound_46 hw.1 hw.2
    · replace hw := hw.2 hc
      refine r_aload_n C dX8_isSound_32 0 rfl ?_
      have hob := hw.1
      obtain ⟨rv6, hp, hw⟩ := hw.2
      refine r_getP C fl_RX8_15_7 hob hp (fun _ _ _ => rfl) dX8_isSound_33 ?_
      refine r_iload_n C dX8_isSound_36 2 rfl ?_
      refine r_laload C hw.1 hw.2.1 dX8_isSound_37 ?_
      replace hw := hw.2.2
      refine r_lload_n C dX8_isSound_38 1 rfl ?_
      refine r_land C dX8_isSound_39 ?_
      refine r_lconst (v := 0) C dX8_isSound_40 (by decide) ?_
      refine r_lcmp C dX8_isSound_41 ?_
      refine r_if_eq C dX8_isSound_42 47 (by decide) (fun hc => ?_) (fun hc => ?_)
      · replace hw := hw.1 hc
        refine r_lload_n C dX8_isSound_47 1 rfl ?_
        refine r_aload_n C dX8_isSound_48 0 rfl ?_
        have hob := hw.1
        obtain ⟨rv7, hp, hw⟩ := hw.2
        refine r_getP C fl_RX8_15_7 hob hp (fun _ _ _ => rfl) dX8_isSound_49 ?_
        refine r_iload_n C dX8_isSound_52 2 rfl ?_
        refine r_laload C hw.1 hw.2.1 dX8_isSound_53 ?_
        replace hw := hw.2.2
        refine r_lor C dX8_isSound_54 ?_
        refine r_topl fun jv8 ejv8 => ?_
        replace hw := hw jv8 ejv8
        refine r_lstore_n C dX8_isSound_55 [(1, .long jv8), (0, .ref (G.1 + al0)), (3, .int xl3)] (by decide) rfl ?_
        obtain ⟨iv9, eiv9⟩ : ∃ q : Int32, q = xl3 + 1 := ⟨_, rfl⟩
        replace hw := hw iv9 eiv9
        refine r_iinc C dX8_isSound_56 2 rfl (by rw [eiv9]; rfl) [(3, .int iv9), (1, .long jv8), (0, .ref (G.1 + al0))] (by decide) rfl ?_
        refine r_goto C dX8_isSound_59 4 (by decide) ?_
        refine r_sub [2, 1, 0] rfl ?_
        exact hK4 _ _ _ _ hw
      · replace hw := hw.2 hc
        refine r_iconst (v := 0) C dX8_isSound_45 (by decide) ?_
        exact r_zret C hr dX8_isSound_46 hw.1 hw.2
def wl_X8_isSound_4  (post : AH → Int32 → Prop) : Nat → AH → Nat → Int64 → Int32 → Prop
  | 0 => fun _ _ _ _ => False
  | n + 1 => fun h al0 zl1 xl3 => wb_X8_isSound_4  (wl_X8_isSound_4  post n) h al0 zl1 xl3 post
theorem tl_X8_isSound_4 {G : GG} {p : Program} {l : Launch} {e : Env} {R : Room} {s : State} {m : MethodId} {args : Array Value} {below : List Frame} {meth : Method} {c : Code} {n0 s0 : Nat} {post : AH → Int32 → Prop} (C : Cx G p R s m args meth c 4 cX8_isSound RX8 n0 s0 2 44) (hr : meth.sig.returnType = (some .boolean))   : ∀ (n : Nat) (h : AH) (al0 : Nat) (zl1 : Int64) (xl3 : Int32), wl_X8_isSound_4  post n h al0 zl1 xl3 → AW G p l e R s m args below meth c 4 (QM G (pI post) args s below n0 s0) 4 [(0, .ref (G.1 + al0)), (1, .long zl1), (3, .int xl3)] [] h := by
  intro n
  induction n with
  | zero => intro h al0 zl1 xl3 hw; exact hw.elim
  | succ n ih => intro h al0 zl1 xl3 hw; exact tb_X8_isSound_4 C hr  ih hw
def wp_X8_isSound (h : AH) (a0 : Nat) (post : AH → Int32 → Prop) : Prop := ∃ n, wl_X8_isSound_4  post n h a0 0 0
set_option maxRecDepth 100000 in
theorem c_X8_isSound (G : GG) (h : AH) (a0 : Nat) (post : AH → Int32 → Prop) (hw : wp_X8_isSound h a0 post) : MC G yX8_isSound cX8_isSound 4 (some .boolean) 2 44 h [.ref (G.1 + a0)] (pI post) := by
  refine MC.of (lv := [(0, .ref (G.1 + a0))]) (by decide) (Nat.le_of_ble_eq_true rfl) rfl fun p l e R s m args below meth c C hr hnm => ?_
  unfold wp_X8_isSound at hw
  refine r_lconst (v := 0) C dX8_isSound_0 (by decide) ?_
  refine r_lstore_n C dX8_isSound_1 [(1, .long 0), (0, .ref (G.1 + a0))] (by decide) rfl ?_
  refine r_iconst (v := 0) C dX8_isSound_2 (by decide) ?_
  refine r_istore_n C dX8_isSound_3 [(3, .int 0), (1, .long 0), (0, .ref (G.1 + a0))] (by decide) rfl ?_
  refine r_sub [2, 1, 0] rfl ?_
  obtain ⟨n, hw⟩ := hw
  exact tl_X8_isSound_4 C hr  n _ _ _ _ hw
theorem dX8_readBytes_0 : decode cX8_readBytes 0 = .ok (.aload_n 0, 1) := by decide +kernel
theorem dX8_readBytes_1 : decode cX8_readBytes 1 = .ok (.aload_n 1, 1) := by decide +kernel
theorem dX8_readBytes_2 : decode cX8_readBytes 2 = .ok (.putfield 19, 3) := by decide +kernel
theorem dX8_readBytes_5 : decode cX8_readBytes 5 = .ok (.iload_n 3, 1) := by decide +kernel
theorem dX8_readBytes_6 : decode cX8_readBytes 6 = .ok (.iconst 3, 1) := by decide +kernel
theorem dX8_readBytes_7 : decode cX8_readBytes 7 = .ok (.aload_n 1, 1) := by decide +kernel
theorem dX8_readBytes_8 : decode cX8_readBytes 8 = .ok (.getfield 23, 3) := by decide +kernel
theorem dX8_readBytes_11 : decode cX8_readBytes 11 = .ok (.imul, 1) := by decide +kernel
theorem dX8_readBytes_12 : decode cX8_readBytes 12 = .ok (.if_icmp .ne 9, 3) := by decide +kernel
theorem dX8_readBytes_15 : decode cX8_readBytes 15 = .ok (.iload_n 3, 1) := by decide +kernel
theorem dX8_readBytes_16 : decode cX8_readBytes 16 = .ok (.aload_n 2, 1) := by decide +kernel
theorem dX8_readBytes_17 : decode cX8_readBytes 17 = .ok (.arraylength, 1) := by decide +kernel
theorem dX8_readBytes_18 : decode cX8_readBytes 18 = .ok (.if_icmp .le 5, 3) := by decide +kernel
theorem dX8_readBytes_21 : decode cX8_readBytes 21 = .ok (.iconst 0, 1) := by decide +kernel
theorem dX8_readBytes_22 : decode cX8_readBytes 22 = .ok (.ireturn, 1) := by decide +kernel
theorem dX8_readBytes_23 : decode cX8_readBytes 23 = .ok (.iconst 0, 1) := by decide +kernel
theorem dX8_readBytes_24 : decode cX8_readBytes 24 = .ok (.istore 4, 2) := by decide +kernel
theorem dX8_readBytes_26 : decode cX8_readBytes 26 = .ok (.iload 4, 2) := by decide +kernel
theorem dX8_readBytes_28 : decode cX8_readBytes 28 = .ok (.aload_n 1, 1) := by decide +kernel
theorem dX8_readBytes_29 : decode cX8_readBytes 29 = .ok (.getfield 23, 3) := by decide +kernel
theorem dX8_readBytes_32 : decode cX8_readBytes 32 = .ok (.if_icmp .ge 83, 3) := by decide +kernel
theorem dX8_readBytes_35 : decode cX8_readBytes 35 = .ok (.aload_n 2, 1) := by decide +kernel
theorem dX8_readBytes_36 : decode cX8_readBytes 36 = .ok (.iconst 3, 1) := by decide +kernel
theorem dX8_readBytes_37 : decode cX8_readBytes 37 = .ok (.iload 4, 2) := by decide +kernel
theorem dX8_readBytes_39 : decode cX8_readBytes 39 = .ok (.imul, 1) := by decide +kernel
theorem dX8_readBytes_40 : decode cX8_readBytes 40 = .ok (.baload, 1) := by decide +kernel
theorem dX8_readBytes_41 : decode cX8_readBytes 41 = .ok (.istore 5, 2) := by decide +kernel
theorem dX8_readBytes_43 : decode cX8_readBytes 43 = .ok (.aload_n 2, 1) := by decide +kernel
theorem dX8_readBytes_44 : decode cX8_readBytes 44 = .ok (.iconst 3, 1) := by decide +kernel
theorem dX8_readBytes_45 : decode cX8_readBytes 45 = .ok (.iload 4, 2) := by decide +kernel
theorem dX8_readBytes_47 : decode cX8_readBytes 47 = .ok (.imul, 1) := by decide +kernel
theorem dX8_readBytes_48 : decode cX8_readBytes 48 = .ok (.iconst 1, 1) := by decide +kernel
theorem dX8_readBytes_49 : decode cX8_readBytes 49 = .ok (.iadd, 1) := by decide +kernel
theorem dX8_readBytes_50 : decode cX8_readBytes 50 = .ok (.baload, 1) := by decide +kernel
theorem dX8_readBytes_51 : decode cX8_readBytes 51 = .ok (.istore 6, 2) := by decide +kernel
theorem dX8_readBytes_53 : decode cX8_readBytes 53 = .ok (.aload_n 2, 1) := by decide +kernel
theorem dX8_readBytes_54 : decode cX8_readBytes 54 = .ok (.iconst 3, 1) := by decide +kernel
theorem dX8_readBytes_55 : decode cX8_readBytes 55 = .ok (.iload 4, 2) := by decide +kernel
theorem dX8_readBytes_57 : decode cX8_readBytes 57 = .ok (.imul, 1) := by decide +kernel
theorem dX8_readBytes_58 : decode cX8_readBytes 58 = .ok (.iconst 2, 1) := by decide +kernel
theorem dX8_readBytes_59 : decode cX8_readBytes 59 = .ok (.iadd, 1) := by decide +kernel
theorem dX8_readBytes_60 : decode cX8_readBytes 60 = .ok (.baload, 1) := by decide +kernel
theorem dX8_readBytes_61 : decode cX8_readBytes 61 = .ok (.istore 7, 2) := by decide +kernel
theorem dX8_readBytes_63 : decode cX8_readBytes 63 = .ok (.aload_n 1, 1) := by decide +kernel
theorem dX8_readBytes_64 : decode cX8_readBytes 64 = .ok (.iload 5, 2) := by decide +kernel
theorem dX8_readBytes_66 : decode cX8_readBytes 66 = .ok (.iload 6, 2) := by decide +kernel
theorem dX8_readBytes_68 : decode cX8_readBytes 68 = .ok (.invokevirtual 46, 3) := by decide +kernel
theorem dX8_readBytes_71 : decode cX8_readBytes 71 = .ok (.ifCond .eq 14, 3) := by decide +kernel
theorem dX8_readBytes_74 : decode cX8_readBytes 74 = .ok (.iload 7, 2) := by decide +kernel
theorem dX8_readBytes_76 : decode cX8_readBytes 76 = .ok (.ifCond .lt 9, 3) := by decide +kernel
theorem dX8_readBytes_79 : decode cX8_readBytes 79 = .ok (.iload 7, 2) := by decide +kernel
theorem dX8_readBytes_81 : decode cX8_readBytes 81 = .ok (.iconst 1, 1) := by decide +kernel
theorem dX8_readBytes_82 : decode cX8_readBytes 82 = .ok (.if_icmp .le 5, 3) := by decide +kernel
theorem dX8_readBytes_85 : decode cX8_readBytes 85 = .ok (.iconst 0, 1) := by decide +kernel
theorem dX8_readBytes_86 : decode cX8_readBytes 86 = .ok (.ireturn, 1) := by decide +kernel
theorem dX8_readBytes_87 : decode cX8_readBytes 87 = .ok (.aload_n 0, 1) := by decide +kernel
theorem dX8_readBytes_88 : decode cX8_readBytes 88 = .ok (.iload 4, 2) := by decide +kernel
theorem dX8_readBytes_90 : decode cX8_readBytes 90 = .ok (.aload_n 1, 1) := by decide +kernel
theorem dX8_readBytes_91 : decode cX8_readBytes 91 = .ok (.iload 4, 2) := by decide +kernel
theorem dX8_readBytes_93 : decode cX8_readBytes 93 = .ok (.bipush 8, 2) := by decide +kernel
theorem dX8_readBytes_95 : decode cX8_readBytes 95 = .ok (.iload 6, 2) := by decide +kernel
theorem dX8_readBytes_97 : decode cX8_readBytes 97 = .ok (.imul, 1) := by decide +kernel
theorem dX8_readBytes_98 : decode cX8_readBytes 98 = .ok (.iload 5, 2) := by decide +kernel
theorem dX8_readBytes_100 : decode cX8_readBytes 100 = .ok (.iadd, 1) := by decide +kernel
theorem dX8_readBytes_101 : decode cX8_readBytes 101 = .ok (.iload 7, 2) := by decide +kernel
theorem dX8_readBytes_103 : decode cX8_readBytes 103 = .ok (.invokevirtual 50, 3) := by decide +kernel
theorem dX8_readBytes_106 : decode cX8_readBytes 106 = .ok (.invokevirtual 32, 3) := by decide +kernel
theorem dX8_readBytes_109 : decode cX8_readBytes 109 = .ok (.iinc 4 1, 3) := by decide +kernel
theorem dX8_readBytes_112 : decode cX8_readBytes 112 = .ok (.goto (-86), 3) := by decide +kernel
theorem dX8_readBytes_115 : decode cX8_readBytes 115 = .ok (.aload_n 0, 1) := by decide +kernel
theorem dX8_readBytes_116 : decode cX8_readBytes 116 = .ok (.invokevirtual 54, 3) := by decide +kernel
theorem dX8_readBytes_119 : decode cX8_readBytes 119 = .ok (.ireturn, 1) := by decide +kernel
def wb_X8_readBytes_26 (K26 : AH → Nat → Nat → Nat → Int32 → Prop) (h : AH) (al0 : Nat) (al1 : Nat) (al2 : Nat) (xl4 : Int32)  (post : AH → Int32 → Prop) : Prop := (ob h al1 1) ∧ (((aI h al1 5) ≤ xl4 → ((ob h al0 7) ∧ wp_X8_isSound h al0  (fun hv1 iv2 => (iv2 = 0 ∨ iv2 = 1) ∧ post hv1 iv2))) ∧ (¬ (aI h al1 5) ≤ xl4 → ((ob h al2 12) ∧ ((vp_in ((3 : Int32) * xl4) (aL h al2)) ∧ (∀ iv3 : Int32, iv3 = aI h al2 ((3 : Int32) * xl4).toNatClampNeg → ((ob h al2 12) ∧ ((vp_in (((3 : Int32) * xl4) + (1 : Int32)) (aL h al2)) ∧ (∀ iv4 : Int32, iv4 = aI h al2 (((3 : Int32) * xl4) + (1 : Int32)).toNatClampNeg → ((ob h al2 12) ∧ ((vp_in (((3 : Int32) * xl4) + (2 : Int32)) (aL h al2)) ∧ (∀ iv5 : Int32, iv5 = aI h al2 (((3 : Int32) * xl4) + (2 : Int32)).toNatClampNeg → ((ob h al1 1) ∧ wp_X1_hasCell h al1 iv3 iv4 (fun hv6 iv7 => (iv7 = 0 → (((0 : Int32) = 0 ∨ (0 : Int32) = 1) ∧ post hv6 0)) ∧ (¬ iv7 = 0 → ((iv5 < 0 → (((0 : Int32) = 0 ∨ (0 : Int32) = 1) ∧ post hv6 0)) ∧ (¬ iv5 < 0 → ((iv5 ≤ 1 → ((ob hv6 al1 1) ∧ wp_X1_spotOf hv6 al1 xl4 (((8 : Int32) * iv4) + iv3) iv5 (fun hv8 iv9 => (ob hv8 al0 7) ∧ wp_X8_put hv8 al0 xl4 iv9 (fun hv10  => ∀ iv11 : Int32, iv11 = xl4 + 1 → (K26 hv10 al0 al1 al2 iv11))))) ∧ (¬ iv5 ≤ 1 → (((0 : Int32) = 0 ∨ (0 : Int32) = 1) ∧ post hv6 0)))))))))))))))))))
set_option maxRecDepth 100000 in
theorem tb_X8_readBytes_26 {G : GG} {p : Program} {l : Launch} {e : Env} {R : Room} {s : State} {m : MethodId} {args : Array Value} {below : List Frame} {meth : Method} {c : Code} {n0 s0 : Nat} {post : AH → Int32 → Prop} (C : Cx G p R s m args meth c 8 cX8_readBytes RX8 n0 s0 3 70) (hr : meth.sig.returnType = (some .boolean)) {K26 : AH → Nat → Nat → Nat → Int32 → Prop} (hK26 : ∀ (h : AH) (al0 : Nat) (al1 : Nat) (al2 : Nat) (xl4 : Int32), K26 h al0 al1 al2 xl4 → AW G p l e R s m args below meth c 8 (QM G (pI post) args s below n0 s0) 26 [(0, .ref (G.1 + al0)), (1, .ref (G.1 + al1)), (2, .ref (G.1 + al2)), (4, .int xl4)] [] h) {h : AH} {al0 : Nat} {al1 : Nat} {al2 : Nat} {xl4 : Int32}  (hw : wb_X8_readBytes_26 K26 h al0 al1 al2 xl4 post) : AW G p l e R s m args below meth c 8 (QM G (pI post) args s below n0 s0) 26 [(0, .ref (G.1 + al0)), (1, .ref (G.1 + al1)), (2, .ref (G.1 + al2)), (4, .int xl4)] [] h := by
  unfold wb_X8_readBytes_26 at hw
  refine r_iload C dX8_readBytes_26 3 rfl ?_
  refine r_aload_n C dX8_readBytes_28 1 rfl ?_
  refine r_getI C fl_RX8_23_1 hw.1 (fun _ _ _ => rfl) dX8_readBytes_29 ?_
  replace hw := hw.2
  refine r_icmp_ge C dX8_readBytes_32 115 (by decide) (fun hc => ?_) (fun hc => ?_)
  · replace hw := hw.1 hc
    refine r_aload_n C dX8_readBytes_115 0 rfl ?_
    have hob := hw.1
    replace hw := hw.2
    refine r_callV C (As := []) (rest := []) (c_X8_isSound G h al0  _ hw) yl_X8_isSound (gm4 (List.mem_of_getElem? (i := 111) rfl) rfl) (gm4 (List.mem_of_getElem? (i := 112) rfl) rfl) (ci := 7) rfl (by decide) (gm4 (List.mem_of_getElem? (i := 113) rfl) rfl) hob (by decide) rfl (Nat.le_of_ble_eq_true rfl) dX8_readBytes_116 rfl (kI fun hv1 iv2 hw => ?_)
    exact r_zret C hr dX8_readBytes_119 hw.1 hw.2
  · replace hw := hw.2 hc
    refine r_aload_n C dX8_readBytes_35 2 rfl ?_
    refine r_iconst (v := 3) C dX8_readBytes_36 (by decide) ?_
    refine r_iload C dX8_readBytes_37 3 rfl ?_
    refine r_imul C dX8_readBytes_39 ?_
    refine r_baload C hw.1 hw.2.1 dX8_readBytes_40 ?_
    replace hw := hw.2.2
    refine r_topi fun iv3 eiv3 => ?_
    replace hw := hw iv3 eiv3
    refine r_istore C dX8_readBytes_41 [(5, .int iv3), (0, .ref (G.1 + al0)), (1, .ref (G.1 + al1)), (2, .ref (G.1 + al2)), (4, .int xl4)] (by decide) rfl ?_
    refine r_aload_n C dX8_readBytes_43 3 rfl ?_
    refine r_iconst (v := 3) C dX8_readBytes_44 (by decide) ?_
    refine r_iload C dX8_readBytes_45 4 rfl ?_
    refine r_imul C dX8_readBytes_47 ?_
    refine r_iconst (v := 1) C dX8_readBytes_48 (by decide) ?_
    refine r_iadd C dX8_readBytes_49 ?_
    refine r_baload C hw.1 hw.2.1 dX8_readBytes_50 ?_
    replace hw := hw.2.2
    refine r_topi fun iv4 eiv4 => ?_
    replace hw := hw iv4 eiv4
    refine r_istore C dX8_readBytes_51 [(6, .int iv4), (5, .int iv3), (0, .ref (G.1 + al0)), (1, .ref (G.1 + al1)), (2, .ref (G.1 + al2)), (4, .int xl4)] (by decide) rfl ?_
    refine r_aload_n C dX8_readBytes_53 4 rfl ?_
    refine r_iconst (v := 3) C dX8_readBytes_54 (by decide) ?_
    refine r_iload C dX8_readBytes_55 5 rfl ?_
    refine r_imul C dX8_readBytes_57 ?_
    refine r_iconst (v := 2) C dX8_readBytes_58 (by decide) ?_
    refine r_iadd C dX8_readBytes_59 ?_
    refine r_baload C hw.1 hw.2.1 dX8_readBytes_60 ?_
    replace hw := hw.2.2
    refine r_topi fun iv5 eiv5 => ?_
    replace hw := hw iv5 eiv5
    refine r_istore C dX8_readBytes_61 [(7, .int iv5), (6, .int iv4), (5, .int iv3), (0, .ref (G.1 + al0)), (1, .ref (G.1 + al1)), (2, .ref (G.1 + al2)), (4, .int xl4)] (by decide) rfl ?_
    refine r_aload_n C dX8_readBytes_63 4 rfl ?_
    refine r_iload C dX8_readBytes_64 2 rfl ?_
    refine r_iload C dX8_readBytes_66 1 rfl ?_
    have hob := hw.1
    replace hw := hw.2
    refine r_callV C (As := [.int iv3, .int iv4]) (rest := []) (c_X1_hasCell G h al1 iv3 iv4 _ hw) yl_X1_hasCell (gm4 (List.mem_of_getElem? (i := 106) rfl) rfl) (gm4 (List.mem_of_getElem? (i := 87) rfl) rfl) (ci := 1) rfl (by decide) (gm4 (List.mem_of_getElem? (i := 88) rfl) rfl) hob (by decide) rfl (Nat.le_of_ble_eq_true rfl) dX8_readBytes_68 rfl (kI fun hv6 iv7 hw => ?_)
    refine r_if_eq C dX8_readBytes_71 85 (by decide) (fun hc => ?_) (fun hc => ?_)
    · replace hw := hw.1 hc
      refine r_iconst (v := 0) C dX8_readBytes_85 (by decide) ?_
      exact r_zret C hr dX8_readBytes_86 hw.1 hw.2
    · replace hw := hw.2 hc
      refine r_iload C dX8_readBytes_74 0 rfl ?_
      refine r_if_lt C dX8_readBytes_76 85 (by decide) (fun hc => ?_) (fun hc => ?_)
      · replace hw := hw.1 hc
        refine r_iconst (v := 0) C dX8_readBytes_85 (by decide) ?_
        exact r_zret C hr dX8_readBytes_86 hw.1 hw.2
      · replace hw := hw.2 hc
        refine r_iload C dX8_readBytes_79 0 rfl ?_
        refine r_iconst (v := 1) C dX8_readBytes_81 (by decide) ?_
        refine r_icmp_le C dX8_readBytes_82 87 (by decide) (fun hc => ?_) (fun hc => ?_)
        · replace hw := hw.1 hc
          refine r_aload_n C dX8_readBytes_87 3 rfl ?_
          refine r_iload C dX8_readBytes_88 6 rfl ?_
          refine r_aload_n C dX8_readBytes_90 4 rfl ?_
          refine r_iload C dX8_readBytes_91 6 rfl ?_
          refine r_bipush (v := 8) C dX8_readBytes_93 (by decide) ?_
          refine r_iload C dX8_readBytes_95 1 rfl ?_
          refine r_imul C dX8_readBytes_97 ?_
          refine r_iload C dX8_readBytes_98 2 rfl ?_
          refine r_iadd C dX8_readBytes_100 ?_
          refine r_iload C dX8_readBytes_101 0 rfl ?_
          have hob := hw.1
          replace hw := hw.2
          refine r_callV C (As := [.int xl4, .int (((8 : Int32) * iv4) + iv3), .int iv5]) (rest := [.int xl4, .ref (G.1 + al0)]) (c_X1_spotOf G hv6 al1 xl4 (((8 : Int32) * iv4) + iv3) iv5 _ hw) yl_X1_spotOf (gm4 (List.mem_of_getElem? (i := 107) rfl) rfl) (gm4 (List.mem_of_getElem? (i := 108) rfl) rfl) (ci := 1) rfl (by decide) (gm4 (List.mem_of_getElem? (i := 109) rfl) rfl) hob (by decide) rfl (Nat.le_of_ble_eq_true rfl) dX8_readBytes_103 rfl (kI fun hv8 iv9 hw => ?_)
          have hob := hw.1
          replace hw := hw.2
          refine r_callV C (As := [.int xl4, .int iv9]) (rest := []) (c_X8_put G hv8 al0 xl4 iv9 _ hw) yl_X8_put (gm4 (List.mem_of_getElem? (i := 73) rfl) rfl) (gm4 (List.mem_of_getElem? (i := 74) rfl) rfl) (ci := 7) rfl (by decide) (gm4 (List.mem_of_getElem? (i := 75) rfl) rfl) hob (by decide) rfl (Nat.le_of_ble_eq_true rfl) dX8_readBytes_106 rfl (kV fun hv10  hw => ?_)
          obtain ⟨iv11, eiv11⟩ : ∃ q : Int32, q = xl4 + 1 := ⟨_, rfl⟩
          replace hw := hw iv11 eiv11
          refine r_iinc C dX8_readBytes_109 6 rfl (by rw [eiv11]; rfl) [(4, .int iv11), (7, .int iv5), (6, .int iv4), (5, .int iv3), (0, .ref (G.1 + al0)), (1, .ref (G.1 + al1)), (2, .ref (G.1 + al2))] (by decide) rfl ?_
          refine r_goto C dX8_readBytes_112 26 (by decide) ?_
          refine r_sub [4, 5, 6, 0] rfl ?_
          exact hK26 _ _ _ _ _ hw
        · replace hw := hw.2 hc
          refine r_iconst (v := 0) C dX8_readBytes_85 (by decide) ?_
          exact r_zret C hr dX8_readBytes_86 hw.1 hw.2
def wl_X8_readBytes_26  (post : AH → Int32 → Prop) : Nat → AH → Nat → Nat → Nat → Int32 → Prop
  | 0 => fun _ _ _ _ _ => False
  | n + 1 => fun h al0 al1 al2 xl4 => wb_X8_readBytes_26  (wl_X8_readBytes_26  post n) h al0 al1 al2 xl4 post
theorem tl_X8_readBytes_26 {G : GG} {p : Program} {l : Launch} {e : Env} {R : Room} {s : State} {m : MethodId} {args : Array Value} {below : List Frame} {meth : Method} {c : Code} {n0 s0 : Nat} {post : AH → Int32 → Prop} (C : Cx G p R s m args meth c 8 cX8_readBytes RX8 n0 s0 3 70) (hr : meth.sig.returnType = (some .boolean))   : ∀ (n : Nat) (h : AH) (al0 : Nat) (al1 : Nat) (al2 : Nat) (xl4 : Int32), wl_X8_readBytes_26  post n h al0 al1 al2 xl4 → AW G p l e R s m args below meth c 8 (QM G (pI post) args s below n0 s0) 26 [(0, .ref (G.1 + al0)), (1, .ref (G.1 + al1)), (2, .ref (G.1 + al2)), (4, .int xl4)] [] h := by
  intro n
  induction n with
  | zero => intro h al0 al1 al2 xl4 hw; exact hw.elim
  | succ n ih => intro h al0 al1 al2 xl4 hw; exact tb_X8_readBytes_26 C hr  ih hw
def wp_X8_readBytes (h : AH) (a0 : Nat) (a1 : Nat) (a2 : Nat) (x3 : Int32) (post : AH → Int32 → Prop) : Prop := (ob h a0 7) ∧ (∀ hv1 : AH, hv1 = hP h a0 0 a1 → ((ob hv1 a1 1) ∧ ((¬ x3 = ((3 : Int32) * (aI hv1 a1 5)) → (((0 : Int32) = 0 ∨ (0 : Int32) = 1) ∧ post hv1 0)) ∧ (x3 = ((3 : Int32) * (aI hv1 a1 5)) → (((aK hv1 a2 = 12 ∨ aK hv1 a2 = 13 ∨ aK hv1 a2 = 14) ∧ a2 < aN hv1) ∧ ((x3 ≤ (nI (aL hv1 a2)) → (∃ n, wl_X8_readBytes_26  post n hv1 a0 a1 a2 0)) ∧ (¬ x3 ≤ (nI (aL hv1 a2)) → (((0 : Int32) = 0 ∨ (0 : Int32) = 1) ∧ post hv1 0))))))))
set_option maxRecDepth 100000 in
theorem c_X8_readBytes (G : GG) (h : AH) (a0 : Nat) (a1 : Nat) (a2 : Nat) (x3 : Int32) (post : AH → Int32 → Prop) (hw : wp_X8_readBytes h a0 a1 a2 x3 post) : MC G yX8_readBytes cX8_readBytes 8 (some .boolean) 3 70 h [.ref (G.1 + a0), .ref (G.1 + a1), .ref (G.1 + a2), .int x3] (pI post) := by
  refine MC.of (lv := [(0, .ref (G.1 + a0)), (1, .ref (G.1 + a1)), (2, .ref (G.1 + a2)), (3, .int x3)]) (by decide) (Nat.le_of_ble_eq_true rfl) rfl fun p l e R s m args below meth c C hr hnm => ?_
  unfold wp_X8_readBytes at hw
  refine r_aload_n C dX8_readBytes_0 0 rfl ?_
  refine r_aload_n C dX8_readBytes_1 1 rfl ?_
  refine r_putP C fp_RX8_19_7 hw.1 (fun _ _ _ => rfl) dX8_readBytes_2 ?_
  replace hw := hw.2
  refine r_toph fun hv1 ehv1 => ?_
  replace hw := hw hv1 ehv1
  refine r_iload_n C dX8_readBytes_5 3 rfl ?_
  refine r_iconst (v := 3) C dX8_readBytes_6 (by decide) ?_
  refine r_aload_n C dX8_readBytes_7 1 rfl ?_
  refine r_getI C fl_RX8_23_1 hw.1 (fun _ _ _ => rfl) dX8_readBytes_8 ?_
  replace hw := hw.2
  refine r_imul C dX8_readBytes_11 ?_
  refine r_icmp_ne C dX8_readBytes_12 21 (by decide) (fun hc => ?_) (fun hc => ?_)
  · replace hw := hw.1 hc
    refine r_iconst (v := 0) C dX8_readBytes_21 (by decide) ?_
    exact r_zret C hr dX8_readBytes_22 hw.1 hw.2
  · replace hw := hw.2 hc
    refine r_iload_n C dX8_readBytes_15 3 rfl ?_
    refine r_aload_n C dX8_readBytes_16 2 rfl ?_
    refine r_alen C hw.1 dX8_readBytes_17 ?_
    replace hw := hw.2
    refine r_icmp_le C dX8_readBytes_18 23 (by decide) (fun hc => ?_) (fun hc => ?_)
    · replace hw := hw.1 hc
      refine r_iconst (v := 0) C dX8_readBytes_23 (by decide) ?_
      refine r_istore C dX8_readBytes_24 [(4, .int 0), (0, .ref (G.1 + a0)), (1, .ref (G.1 + a1)), (2, .ref (G.1 + a2)), (3, .int x3)] (by decide) rfl ?_
      refine r_sub [1, 2, 3, 0] rfl ?_
      obtain ⟨n, hw⟩ := hw
      exact tl_X8_readBytes_26 C hr  n _ _ _ _ _ hw
    · replace hw := hw.2 hc
      refine r_iconst (v := 0) C dX8_readBytes_21 (by decide) ?_
      exact r_zret C hr dX8_readBytes_22 hw.1 hw.2
theorem dX8_metBits_0 : decode cX8_metBits 0 = .ok (.aload_n 0, 1) := by decide +kernel
theorem dX8_metBits_1 : decode cX8_metBits 1 = .ok (.getfield 19, 3) := by decide +kernel
theorem dX8_metBits_4 : decode cX8_metBits 4 = .ok (.getfield 97, 3) := by decide +kernel
theorem dX8_metBits_7 : decode cX8_metBits 7 = .ok (.aload_n 0, 1) := by decide +kernel
theorem dX8_metBits_8 : decode cX8_metBits 8 = .ok (.getfield 15, 3) := by decide +kernel
theorem dX8_metBits_11 : decode cX8_metBits 11 = .ok (.aload_n 0, 1) := by decide +kernel
theorem dX8_metBits_12 : decode cX8_metBits 12 = .ok (.iconst (-1), 1) := by decide +kernel
theorem dX8_metBits_13 : decode cX8_metBits 13 = .ok (.invokevirtual 90, 3) := by decide +kernel
theorem dX8_metBits_16 : decode cX8_metBits 16 = .ok (.invokevirtual 101, 3) := by decide +kernel
theorem dX8_metBits_19 : decode cX8_metBits 19 = .ok (.ireturn, 1) := by decide +kernel
def wp_X8_metBits (h : AH) (a0 : Nat) (post : AH → Int32 → Prop) : Prop := (ob h a0 7) ∧ (∃ rv1, aP h a0 0 = some rv1 ∧ ((ob h rv1 1) ∧ (∃ rv2, aP h rv1 15 = some rv2 ∧ ((ob h a0 7) ∧ (∃ rv3, aP h a0 2 = some rv3 ∧ ((ob h a0 7) ∧ wp_X8_coveredBut h a0 (-1) (fun hv4 jv5 => (ob hv4 rv2 9) ∧ wp_X10_soBits hv4 rv2 rv3 jv5 (fun hv6 iv7 => post hv6 iv7))))))))
set_option maxRecDepth 100000 in
theorem c_X8_metBits (G : GG) (h : AH) (a0 : Nat) (post : AH → Int32 → Prop) (hw : wp_X8_metBits h a0 post) : MC G yX8_metBits cX8_metBits 1 (some .int) 3 73 h [.ref (G.1 + a0)] (pI post) := by
  refine MC.of (lv := [(0, .ref (G.1 + a0))]) (by decide) (Nat.le_of_ble_eq_true rfl) rfl fun p l e R s m args below meth c C hr hnm => ?_
  unfold wp_X8_metBits at hw
  refine r_aload_n C dX8_metBits_0 0 rfl ?_
  have hob := hw.1
  obtain ⟨rv1, hp, hw⟩ := hw.2
  refine r_getP C fl_RX8_19_7 hob hp (fun _ _ _ => rfl) dX8_metBits_1 ?_
  have hob := hw.1
  obtain ⟨rv2, hp, hw⟩ := hw.2
  refine r_getP C fl_RX8_97_1 hob hp (fun _ _ _ => rfl) dX8_metBits_4 ?_
  refine r_aload_n C dX8_metBits_7 0 rfl ?_
  have hob := hw.1
  obtain ⟨rv3, hp, hw⟩ := hw.2
  refine r_getP C fl_RX8_15_7 hob hp (fun _ _ _ => rfl) dX8_metBits_8 ?_
  refine r_aload_n C dX8_metBits_11 0 rfl ?_
  refine r_iconst (v := (-1)) C dX8_metBits_12 (by decide) ?_
  have hob := hw.1
  replace hw := hw.2
  refine r_callV C (As := [.int (-1)]) (rest := [.ref (G.1 + rv3), .ref (G.1 + rv2)]) (c_X8_coveredBut G h a0 (-1) _ hw) yl_X8_coveredBut (gm4 (List.mem_of_getElem? (i := 180) rfl) rfl) (gm4 (List.mem_of_getElem? (i := 181) rfl) rfl) (ci := 7) rfl (by decide) (gm4 (List.mem_of_getElem? (i := 182) rfl) rfl) hob (by decide) rfl (Nat.le_of_ble_eq_true rfl) dX8_metBits_13 rfl (kJ fun hv4 jv5 hw => ?_)
  have hob := hw.1
  replace hw := hw.2
  refine r_callV C (As := [.ref (G.1 + rv3), .long jv5]) (rest := []) (c_X10_soBits G hv4 rv2 rv3 jv5 _ hw) yl_X10_soBits (gm4 (List.mem_of_getElem? (i := 202) rfl) rfl) (gm4 (List.mem_of_getElem? (i := 203) rfl) rfl) (ci := 9) rfl (by decide) (gm4 (List.mem_of_getElem? (i := 204) rfl) rfl) hob (by decide) rfl (Nat.le_of_ble_eq_true rfl) dX8_metBits_16 rfl (kI fun hv6 iv7 hw => ?_)
  exact r_iret C hr dX8_metBits_19 hw
